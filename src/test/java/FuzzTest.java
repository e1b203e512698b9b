import java.util.Random;

/** Any arguments in any state: no call throws, and what is refused or found changes nothing. */
public final class FuzzTest {
  private static final Checks C = new Checks("FuzzTest");
  private static final int[] ODD = {-1, 0, 1, 2, 3, 6, 7, 8, 40, 41, 60, 61, 63, 64, 120, 121,
      Integer.MAX_VALUE, Integer.MIN_VALUE, Integer.MAX_VALUE - 1, 255, 256, -129};
  private static final String[] WORDS = {"path", "person", "fat", "boy", "monk", "widow", "cow",
      ";", "0", "1", "2", "4", "6", "30", "31", "1000", " ", "\n", "x", "\u00ff", "-", "path 4 0;",
      "person fat 0 1 8;", "person cow 2 1 8;", "person boy 4 0 0;"};

  public static void main(String[] args) {
    for (int seed = 0; seed < 300; seed++) {
      run(seed);
    }
    C.end();
  }

  private static void run(int seed) {
    Random random = new Random(seed);
    ErrandLanes x = new ErrandLanes();
    if (seed % 3 != 0) {
      Checks.read(x, "path 4 " + seed % 3 + ";person fat 0 1 8;person cow 2 1 8;person boy 4 0 0;");
    }
    for (int i = 0; i < 440; i++) {
      String before = seen(x);
      int which = random.nextInt(21);
      long answer = called(x, which, random);
      // path() empties the tape and keeps its fault whatever it answers.
      if (answer < Checks.NONE && which != 6) {
        C.due("seed " + seed + ", call " + i + " of " + which + ": as it was, 1",
            seen(x).equals(before) ? 1 : 0, 1);
      } else {
        C.due("an answer", 0, 0);
      }
    }
  }

  private static int odd(Random random) {
    return random.nextInt(3) == 0 ? ODD[random.nextInt(ODD.length)] : random.nextInt(5);
  }

  private static long called(ErrandLanes x, int which, Random r) {
    return switch (which) {
      case 0 -> x.row(odd(r), odd(r), odd(r));
      case 1 -> x.set(odd(r), odd(r), odd(r));
      case 2 -> x.copy(odd(r), odd(r), odd(r), odd(r), odd(r));
      case 3 -> x.drop(odd(r));
      case 4 -> x.feed(r.nextLong(), odd(r));
      case 5 -> Checks.feed(x, words(r));
      case 6 -> x.path();
      case 7 -> x.halves(odd(r));
      case 8 -> x.undo();
      case 9 -> x.person(odd(r), odd(r));
      case 10 -> x.errand(odd(r), odd(r));
      case 11 -> x.ahead(odd(r), odd(r), odd(r));
      case 12 -> x.done(odd(r), odd(r));
      case 13 -> x.secret(odd(r), odd(r));
      case 14 -> x.soon(odd(r));
      case 15 -> x.clean(odd(r), odd(r), odd(r), odd(r));
      case 16 -> x.hands(odd(r), odd(r), odd(r));
      case 17 -> x.began(odd(r), odd(r), odd(r));
      case 18 -> x.image(odd(r)) + x.restore(odd(r)) > 0 ? 1 : 0;
      case 19 -> x.kind(odd(r)) + x.as(odd(r), odd(r)) > 0 ? 1 : 0;
      default -> x.ask(odd(r), odd(r)) + x.trace(odd(r)) + x.count(odd(r)) > 0 ? 1 : 0;
    };
  }

  private static String words(Random r) {
    StringBuilder text = new StringBuilder();
    for (int n = r.nextInt(4); n >= 0 && text.length() < 8; n--) {
      text.append(WORDS[r.nextInt(WORDS.length)]);
    }
    return text.substring(0, Math.min(8, text.length()));
  }

  /** All that can be seen without a change. */
  private static String seen(ErrandLanes x) {
    StringBuilder all = new StringBuilder();
    for (int i = 0; i < 6; i++) {
      all.append(x.count(i)).append(' ');
      for (int what = 0; what < 4; what++) {
        all.append(x.person(i, what)).append(' ').append(x.errand(i, what)).append(' ');
      }
      all.append(x.kind(i)).append(' ');
    }
    for (int i = 0; i < 16; i++) {
      all.append(x.trace(i)).append(' ');
    }
    return all.append(x.fault()).toString();
  }
}
