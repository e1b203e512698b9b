/** Boundary cases of promises 13 to 15, and of what terms 3 foretells as people go now. */
final class ForetoldSentences {
  private static final String TWO = "path 2 0;person fat 0 1 4;person boy 4 0 0;";
  /** No people, or errands, of a path of two. */
  private static final int[] NOBODY = {-1, 2, 3, 5, 6, 31, 32, Integer.MIN_VALUE, Integer.MAX_VALUE};
  private static final int[] NO_HALVES = {-1, 121, 122, 240, Integer.MIN_VALUE, Integer.MAX_VALUE};

  private final Sentences s;

  ForetoldSentences(Sentences s) {
    this.s = s;
  }

  void all() {
    nothingChanges();
    fromNow();
    aheads();
    dones();
    secrets();
  }

  private void nothingChanges() {
    s.terms(3, "FORETOLD (nothing changes;");
    ErrandLanes x = Checks.on("path 4 0;person fat 2 1 8;person boy 6 0 0;person cow 4 1 0;");
    Checks.fill(x, 0, 0, 0, 1, 2);
    x.image(0);
    x.halves(1);
    for (int n = 0; n <= 120; n += 60) {
      x.ahead(0, n, 0);
      x.done(1, 0);
      x.secret(0, n);
      x.soon(0);
      x.soon(1);
      x.clean(0, 2, n, 0);
      x.hands(0, n, 0);
      x.began(0, n, 1);
    }
    int[] counts = {1, 3, 1, 1, 0, 0};
    for (int what = 0; what < 6; what++) {
      s.due("count(" + what + ")", x.count(what), counts[what]);
    }
    int[][] people = {{3, 1, 0}, {5, 0, 1}, {4, 1, 2}};
    for (int p = 0; p < 3; p++) {
      for (int what = 0; what < 3; what++) {
        s.due("person(" + p + ", " + what + ")", x.person(p, what), people[p][what]);
      }
    }
    s.due("undo()", x.undo(), 0);
    s.due("spot then", x.person(0, 0), 2);
    x.restore(0);
    s.due("spot of the image", x.person(0, 0), 2);
  }

  private void fromNow() {
    s.terms(3, "from as all is now)");
    ErrandLanes x = Checks.on(TWO);
    s.due("ahead by 2", x.ahead(0, 2, 0), 2);
    s.due("done", x.done(0, 0), 4);
    s.due("secret", x.secret(0, 0), 1);
    x.halves(3);
    s.due("ahead by 0", x.ahead(0, 0, 0), 1);
    s.due("ahead by 2", x.ahead(0, 2, 0), 1);
    s.due("done", x.done(0, 0), 1);
    s.due("secret: who had it is not told", x.secret(0, 0), 2);
    x.undo();
    x.undo();
    s.due("ahead by 2, of a half undone", x.ahead(0, 2, 0), 1);
    s.due("secret", x.secret(0, 0), 1);
  }

  private void aheads() {
    s.terms(3, "AHEAD by n HALVES (0 to 120): SPOT, WAY, ERRAND of one.");
    ErrandLanes x = Checks.on("path 30 0;person fat 0 1 4;person boy 60 0 0;person cow 2 1 6;");
    int[][] due = {{0, 0, 1, 0}, {1, 1, 1, 0}, {29, 29, 1, 0}, {30, 30, 0, 1}, {60, 0, 0, 1},
        {61, 1, 1, 1}, {119, 1, 0, 0}, {120, 0, 0, 0}};
    for (int[] d : due) {
      for (int what = 0; what < 3; what++) {
        s.due("ahead(0, " + d[0] + ", " + what + ")", x.ahead(0, d[0], what), d[what + 1]);
      }
    }
    s.due("a cow's spot", x.ahead(2, 120, 0), 2);
    s.due("a cow's way", x.ahead(2, 120, 1), 1);
    s.due("a cow's errand", x.ahead(2, 120, 2), 2);

    s.promise(13, "AHEAD: SPOT (what = 0), WAY (1), ERRAND (2).");
    s.due("spot", x.ahead(1, 0, 0), 60);
    s.due("way", x.ahead(1, 0, 1), 0);
    s.due("errand", x.ahead(1, 0, 2), 1);

    s.promise(13, "BAD.");
    ErrandLanes y = Checks.on(TWO);
    for (int p : NOBODY) {
      s.due("ahead(" + p + ", 0, 0)", y.ahead(p, 0, 0), Checks.BAD);
    }
    for (int n : NO_HALVES) {
      s.due("ahead(1, " + n + ", 0)", y.ahead(1, n, 0), Checks.BAD);
    }
    for (int what : new int[] {-1, 3, 4, Integer.MIN_VALUE, Integer.MAX_VALUE}) {
      s.due("ahead(1, 0, " + what + ")", y.ahead(1, 0, what), Checks.BAD);
    }
  }

  /** Behind 120 halves all go as at first, on 30 yards: so 118 is the latest that an errand can be done. */
  private void dones() {
    s.terms(3, "DONE of an ERRAND: behind how many HALVES it is done (0: it is; 120 at most; NONE);");
    ErrandLanes x = Checks.on("path 30 1;person fat 2 1 0;person boy 4 0 4;person cow 6 0 2;"
        + "person monk 8 0 10;person fat 60 1 58;");
    s.due("it is", x.done(1, 0), 0);
    s.due("behind 1 of 2: away, and back", x.done(4, 0), 2);
    s.due("behind 18", x.done(3, 0), 18);
    s.due("behind 118", x.done(0, 0), 118);
    s.due("never", x.done(2, 0), Checks.NONE);
    s.due("by nobody", x.done(2, 1), Checks.NONE);
    x.halves(58);
    s.due("behind 60 yet", x.done(0, 0), 60);
    x.halves(59);
    s.due("behind 1 yet", x.done(0, 0), 1);
    x.halves(1);
    s.due("it is", x.done(0, 0), 0);

    s.terms(3, "who has it then.");
    ErrandLanes y = Checks.on(TWO);
    s.due("0 is done behind 4", y.done(0, 0), 4);
    s.due("1 has it then, though 0 has it now", y.done(0, 1), 1);
    y.halves(6);
    s.due("it is", y.done(0, 0), 0);
    s.due("0 has it now, away from its goal", y.done(0, 1), 0);

    s.promise(14, "DONE: HALVES (what = 0), who has it then (1); NONE. BAD.");
    ErrandLanes z = Checks.on("path 9 2;person cow 2 0 4;person fat 0 1 18;");
    s.due("halves", z.done(1, 0), 18);
    s.due("who", z.done(1, 1), 1);
    s.due("halves: none", z.done(0, 0), Checks.NONE);
    s.due("who: none", z.done(0, 1), Checks.NONE);
    for (int e : NOBODY) {
      s.due("done(" + e + ", 0)", z.done(e, 0), Checks.BAD);
      s.due("done(" + e + ", 1)", z.done(e, 1), Checks.BAD);
    }
    for (int what : new int[] {-1, 2, 3, Integer.MIN_VALUE, Integer.MAX_VALUE}) {
      s.due("done(0, " + what + ")", z.done(0, what), Checks.BAD);
      s.due("done(1, " + what + ")", z.done(1, what), Checks.BAD);
    }
  }

  private void secrets() {
    s.terms(3, "SECRET of an ERRAND in n HALVES (0 to 120): PEOPLE (bits) who have it now, or behind one of them.");
    ErrandLanes x = Checks.on("path 9 0;person fat 0 1 4;person boy 4 0 0;person monk 10 0 0;person cow 2 0 2;");
    // 0 meets 1 behind 2 halves; 1, who comes up again, meets 2 behind 5.
    int[] in = {0, 1, 2, 4, 5, 120};
    int[] due = {1, 1, 3, 3, 7, 7};
    for (int i = 0; i < in.length; i++) {
      s.due("secret(0, " + in[i] + ")", x.secret(0, in[i]), due[i]);
    }
    s.due("a cow's", x.secret(3, 120), 8);
    s.due("2's, now", x.secret(2, 0), 4);
    // Behind 2 halves 1 has it, and 0 has it no more: yet who has it in between is told.
    x.halves(2);
    s.due("now", x.secret(0, 0), 2);
    s.due("from now", x.secret(0, 3), 6);
    ErrandLanes late = Checks.on("path 30 0;person fat 0 1 4;person boy 60 1 0;");
    s.due("behind 29 of them", late.secret(0, 29), 1);
    s.due("behind 30 of them", late.secret(0, 30), 3);

    s.promise(15, "SECRET. BAD.");
    ErrandLanes y = Checks.on(TWO);
    for (int e : NOBODY) {
      s.due("secret(" + e + ", 0)", y.secret(e, 0), Checks.BAD);
    }
    for (int n : NO_HALVES) {
      s.due("secret(1, " + n + ")", y.secret(1, n), Checks.BAD);
    }
    s.due("secret(1, 120)", y.secret(1, 120), 3);
  }
}
