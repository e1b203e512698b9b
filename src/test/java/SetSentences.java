/** Boundary cases of promises 16 to 19, and of what terms 3 foretells by sets of people. */
final class SetSentences {
  private static final String THREE = "path 4 0;person fat 2 1 8;person boy 6 0 0;person cow 4 0 0;";
  private static final int[] NO_HALVES = {-1, 121, 122, 240, Integer.MIN_VALUE, Integer.MAX_VALUE};
  /** No whats, where there are 0 and 1. */
  private static final int[] NO_WHATS = {-1, 2, 3, Integer.MIN_VALUE, Integer.MAX_VALUE};
  /** No people, or errands, of a path of three. */
  private static final int[] NOBODY = {-1, 3, 4, 5, 6, 31, 32, Integer.MIN_VALUE, Integer.MAX_VALUE};

  private final Sentences s;

  SetSentences(Sentences s) {
    this.s = s;
  }

  void all() {
    bySets();
    soon();
    soonAtMost();
    soonRefused();
    clean();
    cleanRefused();
    hands();
    handsRefused();
    began();
    beganRefused();
  }

  private void bySets() {
    s.terms(3, "By a set of PEOPLE, no cows (bits), these go up, all others but cows down, from now on, "
        + "in place of how they go.");
    // In 1 half, 2 goes from 4 to 5 or to 3, 0 from 2 to 3 or to 1: they meet by {0} alone.
    ErrandLanes x = Checks.on("path 4 2;person fat 2 0 4;"
        + "person cow 8 1 8;person boy 4 1 2;");
    Checks.fill(x, 0, 0, 2, 1, 0);
    s.due("sets by which they change", x.began(0, 1, 0), 1);
    s.due("it is {0}", x.began(0, 1, 1), 1);
    Checks.fill(x, 0, 0, 0, 1, 2);
    s.due("all others: none, {2}, {0, 2}", x.began(0, 1, 0), 3);
    s.due("the least is none", x.began(0, 1, 1), 0);
    s.due("all sets: without the cow there are 4", x.began(0, 0, 0), 4);
    ErrandLanes cows = Checks.on("path 4 2;person cow 2 0 4;person cow 8 1 8;");
    Checks.fill(cows, 0, 0, 0, 1);
    s.due("of cows alone there is one set", cows.began(0, 5, 0), 1);
    s.due("which is none", cows.began(0, 5, 1), 0);
    // A set tells how one goes now, not later: from 2 down he comes to 0 in 2, and is up again in 3.
    ErrandLanes one = Checks.on("path 4 1;person fat 2 1 0;");
    s.due("down: 2", one.soon(0), 2);
    s.due("by none, though he goes up", one.soon(1), 0);
    s.due("as he goes", one.done(0, 0), 14);
    one.halves(6);
    s.due("from 8, where up and down are one", one.soon(0), 8);
    s.due("by none", one.soon(1), 0);
  }

  private void soon() {
    s.terms(3, "the fewest HALVES (120 at most) behind which all ERRANDS are done; by which set, "
        + "of several the least; NONE.");
    ErrandLanes x = Checks.on("path 5 1;person cow 0 0 0;person fat 4 0 6;person boy 6 1 2;");
    s.due("1 up in 2, 2 down in 4", x.soon(0), 4);
    s.due("by {1}", x.soon(1), 2);
    ErrandLanes all = Checks.on("path 5 1;person fat 4 0 4;person boy 6 0 6;");
    s.due("all are", all.soon(0), 0);
    s.due("by none", all.soon(1), 0);
    all.halves(1);
    s.due("they are for ever", all.soon(0), 0);
    s.due("by none", all.soon(1), 0);

    s.terms(3, "of several the least; NONE. CLEAN");
    ErrandLanes y = Checks.on("path 4 1;person fat 4 1 2;person fat 2 1 8;person fat 0 1 0;");
    s.due("6", y.soon(0), 6);
    s.due("by {1}, and by {1, 2}", y.soon(1), 2);
    ErrandLanes z = Checks.on("path 4 1;person cow 0 0 2;person fat 2 1 2;");
    s.due("never", z.soon(0), Checks.NONE);
    s.due("by nothing", z.soon(1), Checks.NONE);
    ErrandLanes part = Checks.on("path 4 1;person fat 0 0 2;person fat 2 1 2;person cow 4 0 8;");
    s.due("all but one", part.soon(0), Checks.NONE);
  }

  /** Found by a search, and told alike by Model: what is soonest, in 118 to 121 halves. */
  private void soonAtMost() {
    s.terms(3, "the fewest HALVES (120 at most)");
    ErrandLanes x = Checks.on("path 30 2;person fat 8 1 30;person fat 0 0 20;person fat 10 0 8;"
        + "person fat 6 1 6;person fat 50 1 10;");
    x.halves(2);
    s.due("120", x.soon(0), 120);
    s.due("by none", x.soon(1), 0);
    ErrandLanes y = Checks.on("path 22 2;person fat 24 1 26;person fat 34 0 32;person cow 30 1 30;"
        + "person fat 36 0 2;person fat 32 1 0;");
    y.halves(1);
    s.due("121 would be the fewest", y.soon(0), Checks.NONE);
    s.due("by nothing", y.soon(1), Checks.NONE);
    ErrandLanes z = Checks.on("path 24 2;person fat 20 1 14;person fat 30 0 2;person fat 26 1 38;");
    z.halves(2);
    s.due("122 would be the fewest", z.soon(0), Checks.NONE);
    s.due("by nothing", z.soon(1), Checks.NONE);
  }

  private void soonRefused() {
    s.promise(16, "SOON: HALVES (what = 0), the set (1); NONE. BAD; STATE: no PATH (ahead of BAD).");
    ErrandLanes x = new ErrandLanes();
    s.due("no path", x.soon(0), Checks.STATE);
    s.due("no path", x.soon(1), Checks.STATE);
    for (int what : NO_WHATS) {
      s.due("STATE is ahead: soon(" + what + ")", x.soon(what), Checks.STATE);
    }
    Checks.read(x, "path 2 0;");
    s.due("nobody: halves", x.soon(0), 0);
    s.due("nobody: the set", x.soon(1), 0);
    for (int what : NO_WHATS) {
      s.due("soon(" + what + ")", x.soon(what), Checks.BAD);
    }
  }

  private void clean() {
    s.terms(3, "CLEAN: sets by which none of told PEOPLE has a told ERRAND now, or behind one of n HALVES: "
        + "how many; the least; NONE.");
    ErrandLanes x = Checks.on(THREE);
    s.due("0 has 0 now", x.clean(0, 1, 0, 0), 0);
    s.due("the least of none", x.clean(0, 1, 0, 1), Checks.NONE);
    s.due("1 has it not now", x.clean(0, 2, 0, 0), 4);
    s.due("nor behind 1", x.clean(0, 2, 1, 0), 4);
    s.due("behind 2 by {0}: 3 others", x.clean(0, 2, 2, 0), 3);
    s.due("the least", x.clean(0, 2, 2, 1), 0);
    s.due("behind one of them, not the last alone", x.clean(0, 2, 120, 0), 0);
    s.due("none of nobody", x.clean(0, 0, 120, 0), 4);
    s.due("the least", x.clean(0, 0, 120, 1), 0);
    s.due("none of 1 and the cow", x.clean(0, 6, 2, 0), 3);
    s.due("one of all has it", x.clean(0, 7, 0, 0), 0);
    s.due("a cow has its own", x.clean(2, 4, 0, 0), 0);
    s.due("and nobody else", x.clean(2, 3, 120, 0), 4);
    ErrandLanes y = Checks.on("path 4 2;person fat 0 0 8;person boy 2 1 0;");
    s.due("by {1} and {0, 1}", y.clean(0, 2, 1, 0), 2);
    s.due("the least is {1}", y.clean(0, 2, 1, 1), 2);
    // By {1} and by {0, 1} they meet behind 3; else behind 1, and again behind 5.
    ErrandLanes z = Checks.on("path 2 2;person fat 0 1 4;person boy 2 0 0;");
    s.due("behind 2: by {1} and {0, 1}", z.clean(0, 2, 2, 0), 2);
    s.due("behind 3 by none", z.clean(0, 2, 3, 0), 0);
    s.due("as they go he has it not behind 5", z.ahead(1, 5, 2), 1);
    s.due("yet he has had it, by all", z.clean(0, 2, 5, 0), 0);
  }

  private void cleanRefused() {
    s.promise(17, "CLEAN of PEOPLE (bits): how many sets (what = 0), the least (1); NONE. BAD.");
    ErrandLanes x = Checks.on(THREE);
    for (int e : NOBODY) {
      s.due("clean(" + e + ", 0, 0, 0)", x.clean(e, 0, 0, 0), Checks.BAD);
    }
    for (int people : new int[] {8, 9, 16, 64, -1, -8, Integer.MIN_VALUE, Integer.MAX_VALUE}) {
      s.due("clean(0, " + people + ", 0, 0)", x.clean(0, people, 0, 0), Checks.BAD);
    }
    for (int n : NO_HALVES) {
      s.due("clean(0, 0, " + n + ", 0)", x.clean(0, 0, n, 0), Checks.BAD);
    }
    for (int what : NO_WHATS) {
      s.due("clean(0, 0, 0, " + what + ")", x.clean(0, 0, 0, what), Checks.BAD);
    }
    s.due("clean(2, 0, 120, 0)", x.clean(2, 0, 120, 0), 4);
    s.due("clean(1, 4, 120, 1)", x.clean(1, 4, 120, 1), 0);
    ErrandLanes six = Checks.on(TextSentences.SIX);
    s.due("none of the cow of six, for ever", six.clean(4, 47, 120, 0), 32);
    s.due("by all of six", six.clean(4, 63, 0, 0), 0);
    s.due("nobody of six is the seventh", six.clean(4, 64, 0, 0), Checks.BAD);
  }

  private void hands() {
    s.terms(3, "HANDS of an ERRAND in n HALVES: how many PEOPLE are its SECRET's, in the mean of all sets: "
        + "a fraction.");
    ErrandLanes x = Checks.on(THREE);
    s.due("1, 2, 1, 1 by 4, above", x.hands(0, 2, 0), 5);
    s.due("below", x.hands(0, 2, 1), 4);
    ErrandLanes one = Checks.on("path 4 2;person fat 0 0 8;");
    s.due("of one, above", one.hands(0, 120, 0), 1);
    s.due("below", one.hands(0, 120, 1), 1);

    s.terms(0, "fractions, told as two numbers in lowest terms (0 is 0 by 1).");
    s.due("4 by 4, above", x.hands(0, 0, 0), 1);
    s.due("below", x.hands(0, 0, 1), 1);
    s.due("8 by 4, above", x.hands(0, 120, 0), 2);
    s.due("below", x.hands(0, 120, 1), 1);
    ErrandLanes y = Checks.on("path 4 2;person fat 0 0 8;person boy 2 1 0;");
    s.due("6 by 4, above", y.hands(1, 1, 0), 3);
    s.due("below", y.hands(1, 1, 1), 2);
    s.due("a cow's 4 by 4, above", x.hands(2, 120, 0), 1);
    s.due("below", x.hands(2, 120, 1), 1);
  }

  private void handsRefused() {
    s.promise(18, "HANDS: above (what = 0), below (1). BAD.");
    ErrandLanes x = Checks.on(THREE);
    for (int e : NOBODY) {
      s.due("hands(" + e + ", 0, 0)", x.hands(e, 0, 0), Checks.BAD);
    }
    for (int n : NO_HALVES) {
      s.due("hands(0, " + n + ", 0)", x.hands(0, n, 0), Checks.BAD);
    }
    for (int what : NO_WHATS) {
      s.due("hands(0, 0, " + what + ")", x.hands(0, 0, what), Checks.BAD);
    }
    s.due("hands(2, 120, 1)", x.hands(2, 120, 1), 1);
    s.due("hands(2, 0, 0)", x.hands(2, 0, 0), 1);
  }

  private void began() {
    s.terms(3, "BEGAN: sets by which behind n HALVES each of the PEOPLE has the ERRAND that a row tells: "
        + "how many; the least; NONE.");
    ErrandLanes x = Checks.on(THREE);
    Checks.fill(x, 0, 0, 1, 0, 2);
    s.due("behind 2 by {0}", x.began(0, 2, 0), 1);
    s.due("the least", x.began(0, 2, 1), 1);
    s.due("behind 1 by none", x.began(0, 1, 0), 0);
    s.due("the least of none", x.began(0, 1, 1), Checks.NONE);
    Checks.fill(x, 0, 0, 0, 1, 2);
    s.due("now, by all", x.began(0, 0, 0), 4);
    s.due("the least", x.began(0, 0, 1), 0);
    int[][] notAll = {{1, 1, 2}, {0, 0, 2}, {0, 1, 1}};
    for (int[] items : notAll) {
      Checks.fill(x, 0, 0, items);
      s.due("all but one have what is told", x.began(0, 0, 0), 0);
      s.due("the least of none", x.began(0, 0, 1), Checks.NONE);
    }
    // Behind 2 both are at 4; who part there meet 12 times in 120 halves, the last time in the last.
    ErrandLanes y = Checks.on("path 5 2;person fat 2 1 8;person boy 6 0 0;");
    y.halves(2);
    Checks.fill(y, 0, 0, 0, 1);
    s.due("behind 119 by {0} and by {1}", y.began(0, 119, 0), 2);
    s.due("the least", y.began(0, 119, 1), 1);
    s.due("behind 120 by none", y.began(0, 120, 0), 0);
    s.due("the least of none", y.began(0, 120, 1), Checks.NONE);

    s.promise(19, "as many ITEMS as there are PEOPLE, of a ROW from its beginning on");
    Checks.fill(x, 1, 2, 0, 1, 2, 9, -5, 0);
    s.due("items behind them are not looked at", x.began(1, 0, 0), 4);
    Checks.fill(x, 1, 1, 0, 1, 2);
    s.due("as many as people", x.began(1, 0, 0), 4);
    Checks.fill(x, 1, 1, 9, 0, 1, 2);
    s.due("from its beginning on", x.began(1, 0, 0), Checks.BAD);
    ErrandLanes nobody = Checks.on("path 2 0;");
    nobody.row(0, 0, 0);
    nobody.row(1, 0, 3);
    s.due("no items of nobody", nobody.began(0, 120, 0), 1);
    s.due("the least", nobody.began(0, 120, 1), 0);
    s.due("no items of three", nobody.began(1, 0, 0), 1);
  }

  private void beganRefused() {
    s.promise(19, "BAD: ROW, n, what; STATE: no PATH (ahead of BAD);");
    ErrandLanes none = new ErrandLanes();
    none.row(0, 0, 6);
    s.due("no path", none.began(0, 0, 0), Checks.STATE);
    s.due("STATE is ahead of BAD: row", none.began(8, 0, 0), Checks.STATE);
    s.due("n", none.began(0, 121, 0), Checks.STATE);
    s.due("what", none.began(0, 0, 2), Checks.STATE);
    s.due("STATE is ahead of NULL", none.began(1, 0, 0), Checks.STATE);
    ErrandLanes x = Checks.on(THREE);
    Checks.fill(x, 0, 0, 0, 1, 2);
    for (int row : new int[] {-1, 8, 9, Integer.MIN_VALUE, Integer.MAX_VALUE}) {
      s.due("began(" + row + ", 0, 0)", x.began(row, 0, 0), Checks.BAD);
    }
    for (int n : NO_HALVES) {
      s.due("began(0, " + n + ", 0)", x.began(0, n, 0), Checks.BAD);
      s.due("BAD is ahead of NULL: n", x.began(7, n, 0), Checks.BAD);
    }
    for (int what : NO_WHATS) {
      s.due("began(0, 0, " + what + ")", x.began(0, 0, what), Checks.BAD);
      s.due("BAD is ahead of NULL: what", x.began(7, 0, what), Checks.BAD);
    }

    s.promise(19, "NULL; PLACE; then BAD: an ITEM that is no ERRAND.");
    s.due("a missing row", x.began(7, 0, 0), Checks.NULL);
    s.due("status()", x.status(), 1);
    Checks.fill(x, 1, 0, 0, 1);
    s.due("an item fewer than people", x.began(1, 0, 0), Checks.PLACE);
    s.due("status()", x.status(), 2);
    x.row(2, 0, 0);
    s.due("no items", x.began(2, 0, 0), Checks.PLACE);
    Checks.fill(x, 1, 0, 9, -1);
    s.due("PLACE is ahead of an item that is no errand", x.began(1, 0, 0), Checks.PLACE);

    s.promise(19, "then BAD: an ITEM that is no ERRAND.");
    int[][] wrong = {{3, 1, 2}, {0, 3, 2}, {0, 1, 3}, {-1, 1, 2}, {0, 1, -1}, {0, 1, 6}, {0, -128, 2}};
    for (int[] items : wrong) {
      Checks.fill(x, 3, 0, items);
      x.began(7, 0, 0);
      s.due("items " + items[0] + " " + items[1] + " " + items[2], x.began(3, 0, 0), Checks.BAD);
      s.due("BAD leaves the status", x.status(), 1);
    }
    s.due("all are errands", x.began(0, 120, 1) < 8 ? x.status() : -1, 0);
  }
}
