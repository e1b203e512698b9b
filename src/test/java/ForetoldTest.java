/** Promises 13 to 19: what is foretold, by hand; ModelTest looks at more of it. */
public final class ForetoldTest {
  private static final Checks C = new Checks("ForetoldTest");
  private static final String TWO = "person fat 0 1 4;person boy 4 0 0;";
  private static final int[] WRONG = {-1, 2, 6, 32, Integer.MAX_VALUE, Integer.MIN_VALUE};

  public static void main(String[] args) {
    aheads();
    dones();
    secrets();
    soons();
    soonest();
    soonTies();
    cleans();
    handsInTheMean();
    begans();
    begansRefused();
    threeAtOneSpot();
    nothingChanges();
    C.end();
  }

  /** Terms 3, "AHEAD by n HALVES (0 to 120)"; promise 13, "BAD." */
  private static void aheads() {
    ErrandLanes x = Checks.on("path 2 0;" + TWO);
    C.due("spot now", x.ahead(0, 0, 0), 0);
    C.due("way now", x.ahead(0, 0, 1), 1);
    C.due("errand now", x.ahead(1, 0, 2), 1);
    C.due("spot ahead by 2", x.ahead(0, 2, 0), 2);
    C.due("way ahead by 2", x.ahead(0, 2, 1), 0);
    C.due("errand ahead by 2", x.ahead(0, 2, 2), 1);
    C.due("spot ahead by 120", x.ahead(1, 120, 0), 4);
    x.halves(3);
    C.due("from as all is now", x.ahead(0, 1, 0), 0);
    C.due("n 121", x.ahead(0, 121, 0), Checks.BAD);
    C.due("n -1", x.ahead(0, -1, 0), Checks.BAD);
    C.due("what 3", x.ahead(0, 1, 3), Checks.BAD);
    C.due("what -1", x.ahead(0, 1, -1), Checks.BAD);
    for (int w : WRONG) {
      C.due("person " + w, x.ahead(w, 1, 0), Checks.BAD);
    }
  }

  /** Terms 3, "(0: it is; 120 at most; NONE); who has it then."; promise 14, "BAD." */
  private static void dones() {
    ErrandLanes x = Checks.on("path 2 0;person fat 0 1 4;person boy 4 0 0;person cow 2 0 2;");
    C.due("behind 4", x.done(0, 0), 4);
    C.due("then 1 has it", x.done(0, 1), 1);
    C.due("the cow's is", x.done(2, 0), 0);
    C.due("the cow has it", x.done(2, 1), 2);
    x.halves(4);
    C.due("done", x.done(0, 0), 0);
    C.due("1 has it", x.done(0, 1), 1);
    x.halves(2);
    C.due("done for ever", x.done(0, 0), 0);
    C.due("0 has it now", x.done(0, 1), 0);
    C.due("what 2", x.done(0, 2), Checks.BAD);
    C.due("what -1", x.done(0, -1), Checks.BAD);
    C.due("errand 3", x.done(3, 0), Checks.BAD);
    C.due("errand -1", x.done(-1, 1), Checks.BAD);
    ErrandLanes y = Checks.on("path 30 1;person fat 2 1 0;person fat 0 1 60;person cow 4 0 2;");
    C.due("behind 118", y.done(0, 0), 118);
    C.due("behind 60", y.done(1, 0), 60);
    C.due("never", y.done(2, 0), Checks.NONE);
    C.due("by nobody", y.done(2, 1), Checks.NONE);
    ErrandLanes z = Checks.on("path 30 1;person fat 4 0 6;");
    z.halves(1);
    C.due("from 3 down to 0 and up to 6", z.done(0, 0), 9);
  }

  /** Terms 3, "SECRET of an ERRAND in n HALVES (0 to 120)"; promise 15, "BAD." */
  private static void secrets() {
    ErrandLanes x = Checks.on("path 2 0;" + TWO);
    C.due("now", x.secret(0, 0), 1);
    C.due("ahead of a meeting", x.secret(0, 1), 1);
    C.due("behind it", x.secret(0, 2), 3);
    C.due("the other", x.secret(1, 120), 3);
    x.halves(2);
    C.due("who had it is not told", x.secret(0, 0), 2);
    C.due("n 121", x.secret(0, 121), Checks.BAD);
    C.due("n -1", x.secret(0, -1), Checks.BAD);
    for (int w : WRONG) {
      C.due("errand " + w, x.secret(w, 1), Checks.BAD);
    }
    ErrandLanes y = Checks.on("path 2 1;" + TWO);
    C.due("none changes", y.secret(1, 120), 2);
  }

  /** Promise 16, "the set (1); NONE. BAD". */
  private static void soons() {
    ErrandLanes x = Checks.on("path 2 1;" + TWO);
    C.due("soonest: 0 up, 1 down", x.soon(0), 4);
    C.due("by {0}, or by none: who is at an end turns", x.soon(1), 0);
    x.halves(1);
    C.due("from 1 and 3", x.soon(0), 3);
    C.due("by {0}", x.soon(1), 1);
    x.halves(3);
    C.due("all done", x.soon(0), 0);
    C.due("by none", x.soon(1), 0);
    C.due("what 2", x.soon(2), Checks.BAD);
    C.due("what -1", x.soon(-1), Checks.BAD);
    ErrandLanes y = Checks.on("path 2 1;");
    C.due("nobody", y.soon(0), 0);
    C.due("by none", y.soon(1), 0);
    ErrandLanes z = Checks.on("path 2 1;person cow 0 0 2;person fat 2 1 2;");
    C.due("a cow never comes", z.soon(0), Checks.NONE);
    C.due("by nothing", z.soon(1), Checks.NONE);
  }

  /** Terms 3, "By a set of PEOPLE, no cows (bits)". */
  private static void soonest() {
    ErrandLanes x = Checks.on("path 5 1;person cow 0 0 0;person fat 4 0 6;person boy 6 1 2;");
    C.due("1 up in 2, 2 down in 4", x.soon(0), 4);
    C.due("by {1}, without the cow", x.soon(1), 2);
    C.due("as they go it is later", x.done(1, 0), 10);
    ErrandLanes y = Checks.on("path 30 1;person fat 2 1 0;person fat 58 1 60;");
    C.due("each to his end", y.soon(0), 2);
    C.due("by {1}", y.soon(1), 2);
  }

  /** What is done stays done, so that a set need care for the others only. */
  private static void soonTies() {
    ErrandLanes x = Checks.on("path 4 1;person fat 4 1 8;person fat 2 1 0;");
    x.halves(4);
    C.due("errand 0 is done, 1 is at 6", x.count(4), 1);
    C.due("6 more", x.soon(0), 6);
    C.due("by none, though {0} does it too", x.soon(1), 0);
    ErrandLanes y = Checks.on("path 4 1;person fat 4 1 2;person fat 2 1 8;person fat 0 1 0;");
    C.due("6", y.soon(0), 6);
    C.due("by {1}, though {1, 2} does it too", y.soon(1), 2);
  }

  /** Terms 3, "none of told PEOPLE has a told ERRAND now, or behind one of n HALVES". */
  private static void cleans() {
    ErrandLanes x = Checks.on("path 4 0;person fat 2 1 8;person boy 6 0 0;person cow 4 0 0;");
    C.due("1 never has 0, in 2: not by {0}", x.clean(0, 2, 2, 0), 3);
    C.due("the least", x.clean(0, 2, 2, 1), 0);
    C.due("in 1 by all", x.clean(0, 2, 1, 0), 4);
    C.due("who has it now", x.clean(0, 1, 0, 0), 0);
    C.due("the least of none", x.clean(0, 1, 0, 1), Checks.NONE);
    C.due("of nobody", x.clean(0, 0, 120, 0), 4);
    C.due("of nobody, the least", x.clean(0, 0, 120, 1), 0);
    C.due("a cow has its own", x.clean(2, 4, 120, 0), 0);
    C.due("nobody else has it", x.clean(2, 3, 120, 0), 4);
    C.due("a cow has no other", x.clean(1, 4, 120, 0), 4);
    C.due("1 or the cow", x.clean(0, 6, 2, 0), 3);
    ErrandLanes y = Checks.on("path 4 2;person fat 0 0 8;person boy 2 1 0;");
    C.due("both from 0 and 2: they meet at 1 unless 1 goes up", y.clean(0, 2, 1, 0), 2);
    C.due("the least is {1}", y.clean(0, 2, 1, 1), 2);
    cleansRefused(x);
  }

  /** Promise 17, "CLEAN of PEOPLE (bits)", "BAD." */
  private static void cleansRefused(ErrandLanes x) {
    C.due("errand 3", x.clean(3, 0, 0, 0), Checks.BAD);
    C.due("errand -1", x.clean(-1, 0, 0, 0), Checks.BAD);
    C.due("person 3", x.clean(0, 8, 0, 0), Checks.BAD);
    C.due("people -1", x.clean(0, -1, 0, 0), Checks.BAD);
    C.due("people MIN", x.clean(0, Integer.MIN_VALUE, 0, 0), Checks.BAD);
    C.due("people 7", x.clean(0, 7, 0, 0), 0);
    C.due("n 121", x.clean(0, 0, 121, 0), Checks.BAD);
    C.due("n -1", x.clean(0, 0, -1, 0), Checks.BAD);
    C.due("what 2", x.clean(0, 0, 0, 2), Checks.BAD);
    C.due("what -1", x.clean(0, 0, 0, -1), Checks.BAD);
  }

  /** Terms 0, "fractions, told as two numbers in lowest terms"; promise 18, "BAD." */
  private static void handsInTheMean() {
    ErrandLanes x = Checks.on("path 4 0;person fat 2 1 8;person boy 6 0 0;person cow 4 0 0;");
    C.due("(1 + 2 + 1 + 1) by 4, above", x.hands(0, 2, 0), 5);
    C.due("below", x.hands(0, 2, 1), 4);
    C.due("4 by 4, above", x.hands(0, 1, 0), 1);
    C.due("below", x.hands(0, 1, 1), 1);
    C.due("a cow's, above", x.hands(2, 120, 0), 1);
    C.due("below", x.hands(2, 120, 1), 1);
    ErrandLanes y = Checks.on("path 4 2;person fat 0 0 8;person boy 2 1 0;");
    C.due("6 by 4 is 3 by 2, above", y.hands(1, 1, 0), 3);
    C.due("below", y.hands(1, 1, 1), 2);
    C.due("n 121", x.hands(0, 121, 0), Checks.BAD);
    C.due("n -1", x.hands(0, -1, 0), Checks.BAD);
    C.due("what 2", x.hands(0, 1, 2), Checks.BAD);
    C.due("what -1", x.hands(0, 1, -1), Checks.BAD);
    C.due("errand 3", x.hands(3, 1, 0), Checks.BAD);
    C.due("errand -1", x.hands(-1, 1, 0), Checks.BAD);
  }

  /** Promise 19, "as many ITEMS as there are PEOPLE, of a ROW from its beginning on". */
  private static void begans() {
    ErrandLanes x = Checks.on("path 4 0;person fat 2 1 8;person boy 6 0 0;person cow 4 0 0;");
    Checks.fill(x, 0, 0, 1, 0, 2, 99);
    C.due("by {0} alone, behind 2", x.began(0, 2, 0), 1);
    C.due("the least", x.began(0, 2, 1), 1);
    C.due("not behind 1", x.began(0, 1, 0), 0);
    C.due("none is the least", x.began(0, 1, 1), Checks.NONE);
    C.due("not now", x.began(0, 0, 0), 0);
    Checks.fill(x, 1, 2, 0, 1, 2);
    C.due("now, by all", x.began(1, 0, 0), 4);
    C.due("the least", x.began(1, 0, 1), 0);
    C.due("behind 2, by all but {0}", x.began(1, 2, 0), 3);
    x.halves(2);
    C.due("from as all is now", x.began(0, 0, 0), 4);
    Checks.fill(x, 2, 1, 2, 2, 2);
    C.due("one errand by all never fits", x.began(2, 5, 0), 0);
    ErrandLanes y = Checks.on("path 4 2;person fat 0 0 8;person boy 2 1 0;");
    Checks.fill(y, 0, 0, 1, 0);
    C.due("by none and by {0}", y.began(0, 1, 0), 2);
    C.due("by none", y.began(0, 1, 1), 0);
    Checks.fill(y, 0, 0, 0, 1);
    C.due("by {1} and by {0, 1}", y.began(0, 1, 0), 2);
    C.due("by {1}", y.began(0, 1, 1), 2);
    ErrandLanes z = Checks.on("path 4 2;");
    z.row(0, 0, 0);
    C.due("nobody, by the one set", z.began(0, 120, 0), 1);
    C.due("which is 0", z.began(0, 120, 1), 0);
  }

  /** Promise 19, "NULL; PLACE; then BAD: an ITEM that is no ERRAND." */
  private static void begansRefused() {
    ErrandLanes x = Checks.on("path 4 0;person fat 2 1 8;person boy 6 0 0;");
    Checks.fill(x, 0, 0, 0, 1);
    Checks.fill(x, 1, 0, 0);
    Checks.fill(x, 2, 0, 0, 2);
    Checks.fill(x, 3, 0, -1, 0);
    Checks.fill(x, 4, 0, 7);
    C.due("row -1", x.began(-1, 0, 0), Checks.BAD);
    C.due("row 8", x.began(8, 0, 0), Checks.BAD);
    C.due("n -1", x.began(0, -1, 0), Checks.BAD);
    C.due("n 121", x.began(0, 121, 0), Checks.BAD);
    C.due("what -1", x.began(0, 0, -1), Checks.BAD);
    C.due("what 2", x.began(0, 0, 2), Checks.BAD);
    C.due("BAD is ahead of NULL", x.began(7, 0, 2), Checks.BAD);
    C.due("a missing row", x.began(7, 0, 0), Checks.NULL);
    C.due("status 1", x.status(), 1);
    C.due("an item that is no errand", x.began(2, 0, 0), Checks.BAD);
    C.due("it leaves the status", x.status(), 1);
    C.due("too short", x.began(1, 0, 0), Checks.PLACE);
    C.due("status 2", x.status(), 2);
    C.due("an item -1", x.began(3, 0, 0), Checks.BAD);
    C.due("PLACE is ahead of a bad item", x.began(4, 0, 0), Checks.PLACE);
    C.due("n 120", x.began(0, 120, 0) >= 0 ? 1 : 0, 1);
    C.due("status 0", x.status(), 0);
  }

  /** 1 with 0, then 2 with 0, then 2 with 1, by the ways as they are by then. */
  private static void threeAtOneSpot() {
    String people = "person fat 0 1 8;person boy 4 0 8;person monk 6 0 8;";
    ErrandLanes x = Checks.on("path 4 2;" + people);
    x.halves(2);
    Checks.fill(x, 0, 0, 2, 1, 0);
    C.due("0 and 1 both up, onto 2: 2 changes with both", x.began(0, 1, 0), 1);
    C.due("by {0, 1}", x.began(0, 1, 1), 3);
    ErrandLanes y = Checks.on("path 4 0;" + people);
    y.halves(2);
    Checks.fill(y, 0, 0, 2, 0, 1);
    C.due("turned by 0, 2 changes with 0 alone", y.began(0, 1, 0), 2);
    C.due("by {0}, and by {0, 1}", y.began(0, 1, 1), 1);
  }

  /** Terms 3, "FORETOLD (nothing changes". */
  private static void nothingChanges() {
    ErrandLanes x = Checks.on("path 4 0;person fat 2 1 8;person boy 6 0 0;person cow 4 1 0;");
    Checks.fill(x, 0, 0, 0, 1, 2);
    x.halves(1);
    x.ahead(0, 7, 0);
    x.done(0, 0);
    x.secret(0, 9);
    x.soon(0);
    x.clean(0, 2, 9, 0);
    x.hands(0, 9, 0);
    x.began(0, 9, 0);
    C.due("halves", x.count(2), 1);
    C.due("undos", x.count(3), 1);
    C.due("done", x.count(4), 0);
    C.due("spot of 0", x.person(0, 0), 3);
    C.due("way of 0", x.person(0, 1), 1);
    C.due("spot of 1", x.person(1, 0), 5);
    C.due("way of 1", x.person(1, 1), 0);
    C.due("way of the cow", x.person(2, 1), 1);
    C.due("way of the cow ahead", x.ahead(2, 9, 1), 1);
  }
}
