import java.util.Random;

/** Random paths, on which what the program answers is held against the model. */
public final class ModelTest {
  private static final Checks C = new Checks("ModelTest");
  private static final String[] SORTS = {"fat", "boy", "monk", "widow", "cow"};

  public static void main(String[] args) {
    for (int seed = 0; seed < 300; seed++) {
      new ModelTest(seed).go();
    }
    C.end();
  }

  private final int seed;
  private final Random random;
  private final ErrandLanes x = new ErrandLanes();
  private Model model;
  private final Model[] images = new Model[2];
  private int calls = 0;

  private ModelTest(int seed) {
    this.seed = seed;
    this.random = new Random(seed);
  }

  private void due(String call, long got, long want) {
    calls++;
    C.due("seed " + seed + ", " + call, got, want);
  }

  private void go() {
    readNew();
    while (calls < 440) {
      switch (random.nextInt(12)) {
        case 0, 1, 2 -> goOn();
        case 3 -> undoSome();
        case 4 -> foretellOne();
        case 5 -> due("soon", both(x.soon(0), x.soon(1)), both(model.soon()));
        case 6 -> foretellSets();
        case 7 -> beganFromNow();
        case 8 -> keep();
        case 9 -> restore();
        case 10 -> asks();
        default -> {
          if (random.nextInt(4) == 0) {
            readNew();
          }
        }
      }
      stands();
    }
  }

  private static long both(int a, int b) {
    return 10000000000L * a + b;
  }

  private static long both(int[] pair) {
    return both(pair[0], pair[1]);
  }

  private int pick(int n) {
    return random.nextInt(n);
  }

  private void readNew() {
    int yards = pick(3) == 0 ? 2 + pick(29) : 2 + pick(6);
    int law = pick(3);
    int people = Math.min(pick(7), yards + 1);
    String[] sorts = new String[people];
    int[] spots = new int[people];
    boolean[] ups = new boolean[people];
    int[] goals = new int[people];
    StringBuilder text = new StringBuilder("path " + yards + " " + law + ";");
    boolean[] taken = new boolean[yards + 1];
    for (int p = 0; p < people; p++) {
      sorts[p] = SORTS[pick(5) == 0 ? 4 : pick(4)];
      int at = pick(yards + 1);
      while (taken[at]) {
        at = (at + 1) % (yards + 1);
      }
      taken[at] = true;
      spots[p] = 2 * at;
      ups[p] = random.nextBoolean();
      goals[p] = 2 * pick(yards + 1);
      text.append("person " + sorts[p] + " " + spots[p] + " " + (ups[p] ? 1 : 0) + " " + goals[p] + ";");
    }
    calls += (text.length() + 7) / 8;
    due(text.toString(), Checks.read(x, text.toString()), people);
    model = new Model(yards, law, sorts, spots, ups, goals);
  }

  private void stands() {
    int people = model.sorts.length;
    due("people", x.count(1), people);
    due("gone", x.count(2), model.now.gone());
    due("undos", x.count(3), model.past.size());
    due("done", x.count(4), Integer.bitCount(Model.bits(model.now.done())));
    if (people > 0) {
      int p = pick(people);
      due("spot of " + p, x.person(p, 0), model.now.spots()[p]);
      due("way of " + p, x.person(p, 1), model.now.ups()[p] ? 1 : 0);
      due("errand of " + p, x.person(p, 2), model.now.errands()[p]);
      due("goal " + p, x.errand(p, 0), model.goals[p]);
      due("done " + p, x.errand(p, 1), model.now.done()[p] ? 1 : 0);
      due("holder of " + p, x.errand(p, 2), Model.holder(model.now, p));
      due("spot of errand " + p, x.errand(p, 3), model.now.spots()[Model.holder(model.now, p)]);
    }
  }

  private void goOn() {
    int n = pick(3) == 0 ? 1 + pick(60) : 1 + pick(5);
    due("halves(" + n + ")", x.halves(n), model.halves(n));
  }

  private void undoSome() {
    for (int n = pick(pick(4) == 0 ? 27 : 4); n >= 0; n--) {
      due("undo()", x.undo(), model.undo());
    }
  }

  private void foretellOne() {
    int people = model.sorts.length;
    if (people == 0) {
      return;
    }
    int p = pick(people);
    int n = pick(121);
    Model.Moment then = model.from(model.now, n).get(n);
    due("ahead spot", x.ahead(p, n, 0), then.spots()[p]);
    due("ahead way", x.ahead(p, n, 1), then.ups()[p] ? 1 : 0);
    due("ahead errand", x.ahead(p, n, 2), then.errands()[p]);
    due("done", both(x.done(p, 0), x.done(p, 1)), both(model.done(p)));
    due("secret(" + p + ", " + n + ")", x.secret(p, n), model.holders(model.now, p, n));
  }

  private void foretellSets() {
    int people = model.sorts.length;
    if (people == 0) {
      return;
    }
    int errand = pick(people);
    int n = pick(3) == 0 ? pick(121) : pick(12);
    int told = pick(1 << people);
    due("clean(" + errand + ", " + told + ", " + n + ")",
        both(x.clean(errand, told, n, 0), x.clean(errand, told, n, 1)),
        both(model.clean(errand, told, n)));
    due("hands(" + errand + ", " + n + ")",
        both(x.hands(errand, n, 0), x.hands(errand, n, 1)),
        both(model.hands(errand, n)));
  }

  /** What some set brings about in some halves, so that there is one to find. */
  private void beganFromNow() {
    int n = pick(3) == 0 ? pick(121) : pick(9);
    Model.Moment[] starts = model.startsBySet();
    Model.Moment start = starts[pick(starts.length)];
    int[] row = model.from(start == null ? starts[0] : start, n).get(n).errands();
    int[] longer = java.util.Arrays.copyOf(row, row.length + pick(3));
    Checks.fill(x, 3, pick(3), longer);
    calls += longer.length + 1;
    due("began(" + n + ")", both(x.began(3, n, 0), x.began(3, n, 1)), both(model.began(row, n)));
  }

  private void keep() {
    int k = pick(2);
    due("image(" + k + ")", x.image(k), 1);
    images[k] = model.image();
  }

  private void restore() {
    int k = pick(2);
    due("restore(" + k + ")", x.restore(k), images[k] == null ? Checks.STATE : 1);
    if (images[k] != null) {
      model = images[k].image();
    }
  }

  private void asks() {
    for (int p = 0; p < model.sorts.length; p++) {
      due("size of " + p, x.ask(p, 0), model.size(p));
      due("mark of " + p, x.ask(p, 1), model.mark(p));
    }
  }
}
