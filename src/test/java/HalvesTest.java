/** Promises 9 to 12, and 26 of them: halves by each law, undone ones, one person, one errand. */
public final class HalvesTest {
  private static final Checks C = new Checks("HalvesTest");
  private static final String TWO = "person fat 0 1 4;person boy 4 0 0;";

  public static void main(String[] args) {
    lawOfTurning();
    lawOfPassing();
    lawOfChanging();
    ends();
    several();
    cows();
    doneOnce();
    limits();
    undos();
    undoneDone();
    refusals();
    C.end();
  }

  /** One is at a spot, goes a way, and has an errand. */
  private static void stands(ErrandLanes x, int person, int spot, int way, int errand) {
    String of = "of " + person + " behind " + x.count(2);
    C.due("spot " + of, x.person(person, 0), spot);
    C.due("way " + of, x.person(person, 1), way);
    C.due("errand " + of, x.person(person, 2), errand);
    C.due("who has it, " + of, x.errand(errand, 2), person);
    C.due("his spot, " + of, x.errand(errand, 3), spot);
  }

  /** Terms 2, "0: they change ERRANDS, and both turn round;". */
  private static void lawOfTurning() {
    ErrandLanes x = Checks.on("path 2 0;" + TWO);
    stands(x, 0, 0, 1, 0);
    stands(x, 1, 4, 0, 1);
    C.due("halves(1)", x.halves(1), 0);
    stands(x, 0, 1, 1, 0);
    stands(x, 1, 3, 0, 1);
    C.due("halves(1): they meet", x.halves(1), 0);
    stands(x, 0, 2, 0, 1);
    stands(x, 1, 2, 1, 0);
    C.due("halves(2): both are done", x.halves(2), 3);
    stands(x, 0, 0, 0, 1);
    stands(x, 1, 4, 1, 0);
    C.due("halves(2): done already", x.halves(2), 0);
    stands(x, 0, 2, 0, 0);
    stands(x, 1, 2, 1, 1);
  }

  /** Terms 2, "1: nothing;". */
  private static void lawOfPassing() {
    ErrandLanes x = Checks.on("path 2 1;" + TWO);
    C.due("halves(2)", x.halves(2), 0);
    stands(x, 0, 2, 1, 0);
    stands(x, 1, 2, 0, 1);
    C.due("halves(2)", x.halves(2), 3);
    stands(x, 0, 4, 1, 0);
    stands(x, 1, 0, 0, 1);
  }

  /** Terms 2, "2: they change ERRANDS." */
  private static void lawOfChanging() {
    ErrandLanes x = Checks.on("path 2 2;" + TWO);
    C.due("halves(2)", x.halves(2), 0);
    stands(x, 0, 2, 1, 1);
    stands(x, 1, 2, 0, 0);
    C.due("halves(2)", x.halves(2), 0);
    stands(x, 0, 4, 1, 1);
    stands(x, 1, 0, 0, 0);
    C.due("halves(2): they meet again", x.halves(2), 0);
    stands(x, 0, 2, 0, 0);
    stands(x, 1, 2, 1, 1);
  }

  /** Terms 2, "who would come beyond an end turns round first." */
  private static void ends() {
    ErrandLanes x = Checks.on("path 2 0;person fat 0 0 2;person boy 4 1 4;");
    C.due("one is at his goal at once", x.errand(1, 1), 1);
    C.due("halves(1): both turn round first", x.halves(1), 0);
    stands(x, 0, 1, 1, 0);
    stands(x, 1, 3, 0, 1);
    C.due("halves(1)", x.halves(1), 1);
    stands(x, 0, 2, 0, 1);
    stands(x, 1, 2, 1, 0);
    ErrandLanes y = Checks.on("path 2 1;person fat 2 1 0;");
    C.due("halves(2) to the end", y.halves(2), 0);
    stands(y, 0, 4, 1, 0);
    C.due("halves(1) from the end", y.halves(1), 0);
    stands(y, 0, 3, 0, 0);
    C.due("halves(3) to the other end", y.halves(3), 1);
    stands(y, 0, 0, 0, 0);
    C.due("halves(1) from there", y.halves(1), 0);
    stands(y, 0, 1, 1, 0);
  }

  private static void several() {
    ErrandLanes x = Checks.on("path 9 0;person fat 0 0 18;person fat 2 0 18;person cow 10 0 18;"
        + "person fat 4 1 18;");
    x.halves(1);
    stands(x, 0, 1, 0, 1);
    stands(x, 1, 1, 1, 0);
    stands(x, 3, 5, 1, 3);
    ErrandLanes y = Checks.on("path 2 2;person fat 0 0 2;person boy 4 0 2;person monk 2 1 0;");
    y.halves(1);
    stands(y, 0, 1, 1, 0);
    stands(y, 2, 3, 1, 1);
    stands(y, 1, 3, 0, 2);
    y.halves(1);
    stands(y, 0, 2, 1, 2);
    stands(y, 1, 2, 0, 0);
    stands(y, 2, 4, 1, 1);
  }

  /** Terms 2, "(A cow has its ERRAND for ever.)" */
  private static void cows() {
    ErrandLanes x = Checks.on("path 3 0;person cow 2 1 4;person fat 0 1 6;person cow 6 0 6;");
    C.due("a cow at its goal", x.count(4), 1);
    C.due("by a cow", x.halves(2), 0);
    stands(x, 0, 2, 1, 0);
    stands(x, 1, 2, 1, 1);
    C.due("halves(4)", x.halves(4), 2);
    stands(x, 1, 6, 1, 1);
    stands(x, 2, 6, 0, 2);
    C.due("halves(60)", x.halves(60), 0);
    stands(x, 0, 2, 1, 0);
    stands(x, 2, 6, 0, 2);
  }

  /** Terms 2, "An ERRAND is done once", "it is carried on, and changed, all the same." */
  private static void doneOnce() {
    ErrandLanes x = Checks.on("path 2 1;person fat 0 1 0;person monk 2 1 4;");
    C.due("done at first", x.count(4), 1);
    C.due("halves(1)", x.halves(1), 0);
    C.due("away from its goal it is done", x.errand(0, 1), 1);
    C.due("halves(1)", x.halves(1), 2);
    C.due("halves(6): back at goals", x.halves(6), 0);
    C.due("two done", x.count(4), 2);
    C.due("goal", x.errand(1, 0), 4);
  }

  /** Terms 2, "HALVES go by (9999 at most)"; promise 9, "FULL: there would be more than 9999." */
  private static void limits() {
    ErrandLanes x = Checks.on("path 2 0;" + TWO);
    for (int i = 0; i < 166; i++) {
      x.halves(60);
    }
    C.due("9960 gone", x.count(2), 9960);
    C.due("halves(40)", x.halves(40), Checks.FULL);
    C.due("nothing went by", x.count(2), 9960);
    C.due("halves(61): BAD is ahead of FULL", x.halves(61), Checks.BAD);
    C.due("halves(39)", x.halves(39), 0);
    C.due("9999 gone", x.count(2), 9999);
    C.due("halves(1)", x.halves(1), Checks.FULL);
    C.due("foretold beyond them", x.ahead(0, 1, 0), 0);
    C.due("undo()", x.undo(), 23);
    C.due("room again", x.halves(2), Checks.FULL);
    C.due("room for one", x.halves(1), 0);
  }

  /** Terms 2, "the latest 24 of them can be undone, the latest first."; promise 10, "STATE: none." */
  private static void undos() {
    ErrandLanes x = Checks.on("path 4 0;person fat 0 1 8;person boy 6 0 8;person monk 8 0 8;");
    C.due("undo() at first", x.undo(), Checks.STATE);
    int[] spots = new int[61];
    int[] ways = new int[61];
    int[] errands = new int[61];
    for (int i = 0; i <= 60; i++) {
      spots[i] = x.ahead(1, i, 0);
      ways[i] = x.ahead(1, i, 1);
      errands[i] = x.ahead(1, i, 2);
    }
    x.halves(59);
    x.halves(1);
    C.due("24 at most", x.count(3), 24);
    stands(x, 1, spots[60], ways[60], errands[60]);
    for (int i = 1; i <= 24; i++) {
      C.due("undo() " + i, x.undo(), 24 - i);
      C.due("halves gone", x.count(2), 60 - i);
      stands(x, 1, spots[60 - i], ways[60 - i], errands[60 - i]);
    }
    C.due("a 25th", x.undo(), Checks.STATE);
    C.due("it changes nothing", x.count(2), 36);
    x.halves(3);
    C.due("undos of new ones", x.count(3), 3);
    stands(x, 1, spots[39], ways[39], errands[39]);
    C.due("undo()", x.undo(), 2);
    stands(x, 1, spots[38], ways[38], errands[38]);
  }

  private static void undoneDone() {
    ErrandLanes x = Checks.on("path 2 1;person fat 0 1 2;person cow 4 0 4;");
    C.due("halves(3)", x.halves(3), 1);
    C.due("undo()", x.undo(), 2);
    C.due("still done", x.errand(0, 1), 1);
    C.due("undo()", x.undo(), 1);
    C.due("done no more", x.errand(0, 1), 0);
    C.due("the cow's is", x.count(4), 1);
    C.due("done anew", x.halves(1), 1);
  }

  /** Promise 9, "n HALVES (1 to 60)"; promises 11 and 12, "BAD." */
  private static void refusals() {
    ErrandLanes x = Checks.on("path 2 0;" + TWO);
    C.due("halves(0)", x.halves(0), Checks.BAD);
    C.due("halves(-1)", x.halves(-1), Checks.BAD);
    C.due("halves(61)", x.halves(61), Checks.BAD);
    C.due("halves(MAX)", x.halves(Integer.MAX_VALUE), Checks.BAD);
    C.due("halves(MIN)", x.halves(Integer.MIN_VALUE), Checks.BAD);
    C.due("nothing went by", x.count(2), 0);
    int[] wrong = {-1, 2, 6, Integer.MAX_VALUE, Integer.MIN_VALUE};
    for (int w : wrong) {
      C.due("person(" + w + ", 0)", x.person(w, 0), Checks.BAD);
      C.due("errand(" + w + ", 0)", x.errand(w, 0), Checks.BAD);
    }
    C.due("person(0, -1)", x.person(0, -1), Checks.BAD);
    C.due("person(0, 3)", x.person(0, 3), Checks.BAD);
    C.due("errand(0, -1)", x.errand(0, -1), Checks.BAD);
    C.due("errand(0, 4)", x.errand(0, 4), Checks.BAD);
  }
}
