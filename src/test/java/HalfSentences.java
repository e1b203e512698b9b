/** Boundary cases of promises 9 to 12, and of terms 2. */
final class HalfSentences {
  private static final String TWO = "person fat 0 1 4;person boy 4 0 0;";
  /** No people of a path of two. */
  private static final int[] NOBODY = {-1, 2, 3, 5, 6, 32, Integer.MIN_VALUE, Integer.MAX_VALUE};

  private final Sentences s;

  HalfSentences(Sentences s) {
    this.s = s;
  }

  void all() {
    walks();
    turns();
    meetings();
    order();
    laws();
    cows();
    doneOnce();
    mostEver();
    mostUndone();
    halves();
    halvesRefused();
    undos();
    persons();
    errands();
  }

  /** One is at a spot, goes a way, and has an errand. */
  private void stands(ErrandLanes x, int person, int spot, int way, int errand) {
    String of = "of " + person + " behind " + x.count(2);
    s.due("spot " + of, x.person(person, 0), spot);
    s.due("way " + of, x.person(person, 1), way);
    s.due("errand " + of, x.person(person, 2), errand);
  }

  private void walks() {
    s.terms(2, "each of the PEOPLE, but cows, who stand, comes one SPOT farther his WAY;");
    ErrandLanes x = Checks.on("path 9 0;person fat 2 1 0;person boy 8 0 0;person cow 12 0 0;"
        + "person widow 14 1 0;person monk 16 1 0;person cow 0 1 4;");
    x.halves(1);
    stands(x, 0, 3, 1, 0);
    stands(x, 1, 7, 0, 1);
    stands(x, 2, 12, 0, 2);
    stands(x, 3, 15, 1, 3);
    stands(x, 4, 17, 1, 4);
    stands(x, 5, 0, 1, 5);
  }

  private void turns() {
    s.terms(2, "who would come beyond an end turns round first.");
    ErrandLanes x = Checks.on("path 2 1;person fat 0 0 2;person boy 4 1 2;");
    x.halves(1);
    stands(x, 0, 1, 1, 0);
    stands(x, 1, 3, 0, 1);
    ErrandLanes y = Checks.on("path 2 1;person fat 0 1 2;person boy 4 0 2;");
    y.halves(1);
    stands(y, 0, 1, 1, 0);
    stands(y, 1, 3, 0, 1);
    y.halves(3);
    stands(y, 0, 4, 1, 0);
    stands(y, 1, 0, 0, 1);
    y.halves(1);
    stands(y, 0, 3, 0, 0);
    stands(y, 1, 1, 1, 1);
    ErrandLanes z = Checks.on("path 30 1;person fat 60 1 2;person cow 58 0 58;");
    z.halves(60);
    stands(z, 0, 0, 0, 0);
    z.halves(1);
    stands(z, 0, 1, 1, 0);
    z.halves(59);
    stands(z, 0, 60, 1, 0);
  }

  /** Two go the same way from one spot, up or down, only by sets; so it is began() that tells it. */
  private void meetings() {
    s.terms(2, "no cows, who are at one SPOT, the WAY of one up, of the other one down (as it is by then), "
        + "meet,");
    ErrandLanes x = Checks.on("path 4 2;person fat 2 1 8;person boy 4 0 8;");
    x.halves(1);
    stands(x, 0, 3, 1, 1);
    stands(x, 1, 3, 0, 0);
    ErrandLanes apart = Checks.on("path 4 2;person fat 2 1 8;person boy 8 0 8;");
    apart.halves(1);
    stands(apart, 0, 3, 1, 0);
    stands(apart, 1, 7, 0, 1);
    ErrandLanes by = Checks.on("path 4 2;person fat 2 1 8;person boy 4 1 8;");
    by.halves(1);
    stands(by, 0, 3, 1, 0);
    stands(by, 1, 5, 1, 1);
    // From 3, where they stand now, by no set do they meet in one half.
    Checks.fill(x, 0, 0, 1, 0);
    s.due("both up, both down, or apart", x.began(0, 1, 0), 4);
    ErrandLanes cow = Checks.on("path 4 2;person fat 2 1 8;person cow 4 0 8;person cow 6 1 0;");
    cow.halves(4);
    stands(cow, 0, 6, 1, 0);
    stands(cow, 1, 4, 0, 1);
    stands(cow, 2, 6, 1, 2);

    s.terms(2, "(as it is by then)");
    // Behind 2, 0 and 1 are at 2, and 2 is at 4; by {0, 1} all three come to 3.
    String people = "person fat 0 1 8;person boy 4 0 8;person monk 6 0 8;";
    ErrandLanes y = Checks.on("path 4 0;" + people);
    y.halves(2);
    stands(y, 0, 2, 0, 1);
    stands(y, 1, 2, 1, 0);
    stands(y, 2, 4, 0, 2);
    Checks.fill(y, 0, 0, 2, 0, 1);
    s.due("2 turned with 0, and does not meet 1: by {0} and {0, 1}", y.began(0, 1, 0), 2);
    s.due("the least", y.began(0, 1, 1), 1);
    Checks.fill(y, 0, 0, 2, 1, 0);
    s.due("2 meets 0, then 1, by none", y.began(0, 1, 0), 0);
  }

  private void order() {
    s.terms(2, "each two in order (1 with 0, 2 with 0, 2 with 1, 3 with 0, ..)");
    ErrandLanes x = Checks.on("path 4 2;person fat 0 1 8;person boy 4 0 8;person monk 6 0 8;");
    x.halves(2);
    stands(x, 0, 2, 1, 1);
    stands(x, 1, 2, 0, 0);
    stands(x, 2, 4, 0, 2);
    Checks.fill(x, 0, 0, 2, 1, 0);
    s.due("2 with 0, then 2 with 1, by {0, 1}", x.began(0, 1, 1), 3);
    Checks.fill(x, 0, 0, 0, 2, 1);
    s.due("2 with 1, then 2 with 0, by none", x.began(0, 1, 0), 0);
    ErrandLanes y = Checks.on("path 4 2;person fat 6 0 8;person boy 0 1 8;person monk 4 0 8;");
    y.halves(2);
    stands(y, 0, 4, 0, 0);
    stands(y, 1, 2, 1, 2);
    stands(y, 2, 2, 0, 1);
    Checks.fill(y, 0, 0, 1, 0, 2);
    s.due("1 with 0, then 2 with 0, by {1, 2}", y.began(0, 1, 1), 6);
    Checks.fill(y, 0, 0, 2, 1, 0);
    s.due("2 with 0, then 1 with 0, by none", y.began(0, 1, 0), 0);
  }

  private void laws() {
    s.terms(2, "by LAW: 0: they change ERRANDS, and both turn round;");
    ErrandLanes x = Checks.on("path 2 0;" + TWO);
    x.halves(2);
    stands(x, 0, 2, 0, 1);
    stands(x, 1, 2, 1, 0);

    s.terms(2, "1: nothing;");
    ErrandLanes y = Checks.on("path 2 1;" + TWO);
    y.halves(2);
    stands(y, 0, 2, 1, 0);
    stands(y, 1, 2, 0, 1);

    s.terms(2, "2: they change ERRANDS.");
    ErrandLanes z = Checks.on("path 2 2;" + TWO);
    z.halves(2);
    stands(z, 0, 2, 1, 1);
    stands(z, 1, 2, 0, 0);
  }

  private void cows() {
    s.terms(2, "(A cow has its ERRAND for ever.)");
    for (int law = 0; law < 3; law++) {
      ErrandLanes x = Checks.on("path 3 " + law + ";person cow 2 1 4;person fat 0 1 6;person cow 4 0 4;");
      for (int i = 0; i < 13; i++) {
        x.halves(1);
        stands(x, 0, 2, 1, 0);
        stands(x, 2, 4, 0, 2);
        s.due("errand of the other", x.person(1, 2), 1);
      }
    }
  }

  private void doneOnce() {
    s.terms(2, "An ERRAND is done once, as a HALF ends, who has it is at its GOAL;");
    ErrandLanes x = Checks.on("path 2 1;person fat 0 1 4;");
    s.due("3 halves", x.halves(3), 0);
    s.due("not yet", x.errand(0, 1), 0);
    s.due("the 4th", x.halves(1), 1);
    s.due("done", x.errand(0, 1), 1);
    s.due("away from it", x.halves(1), 0);
    s.due("done still", x.errand(0, 1), 1);
    s.due("there again", x.halves(7), 0);
    s.due("at its goal", x.errand(0, 3), 4);
    // They meet at 2, which is 0's goal; 0's errand is there with whom it is then.
    ErrandLanes meet = Checks.on("path 2 0;person fat 0 1 2;person boy 4 0 2;");
    s.due("both are done as they meet", meet.halves(2), 3);
    s.due("who has 0", meet.errand(0, 2), 1);

    s.terms(2, "it is carried on, and changed, all the same.");
    ErrandLanes y = Checks.on("path 4 2;person fat 0 1 2;person boy 8 0 0;");
    s.due("0 is done", y.halves(2), 1);
    stands(y, 0, 2, 1, 0);
    s.due("carried on", y.halves(1), 0);
    stands(y, 0, 3, 1, 0);
    s.due("changed", y.halves(1), 0);
    stands(y, 0, 4, 1, 1);
    stands(y, 1, 4, 0, 0);
    s.due("at its goal again, with another", y.halves(2), 0);
    s.due("his spot", y.errand(0, 3), 2);
    s.due("who has it", y.errand(0, 2), 1);
  }

  private void mostEver() {
    s.terms(2, "HALVES go by (9999 at most);");
    ErrandLanes x = Checks.on("path 2 1;" + TWO);
    for (int i = 0; i < 166; i++) {
      x.halves(60);
    }
    s.due("39 more", x.halves(39), 0);
    s.due("9999", x.count(2), 9999);
    s.due("no more", x.halves(1), Checks.FULL);
    s.due("9999", x.count(2), 9999);
    s.due("foretold yet", x.ahead(0, 120, 0), x.person(0, 0));

    s.promise(9, "FULL: there would be more than 9999.");
    x.undo();
    s.due("two would be too many", x.halves(2), Checks.FULL);
    s.due("60 would be", x.halves(60), Checks.FULL);
    s.due("BAD is ahead", x.halves(61), Checks.BAD);
    s.due("BAD is ahead", x.halves(0), Checks.BAD);
    s.due("none went by", x.count(2), 9998);
    s.due("undos stay", x.count(3), 23);
    s.due("one", x.halves(1), 0);
    s.due("9999", x.count(2), 9999);
    x.image(0);
    x.restore(0);
    s.due("restored", x.halves(1), Checks.FULL);
    Checks.read(x, "path 2 1;");
    s.due("another path begins anew", x.halves(60), 0);
  }

  private void mostUndone() {
    s.terms(2, "the latest 24 of them can be undone, the latest first.");
    ErrandLanes x = Checks.on("path 30 1;person fat 0 1 60;");
    x.halves(23);
    s.due("23", x.count(3), 23);
    x.halves(1);
    s.due("24", x.count(3), 24);
    x.halves(1);
    s.due("24 of 25", x.count(3), 24);
    x.halves(34);
    for (int i = 1; i <= 24; i++) {
      s.due("undo() " + i, x.undo(), 24 - i);
      s.due("the spot ahead of it", x.person(0, 0), 59 - i);
      s.due("halves", x.count(2), 59 - i);
    }
    s.due("a 25th", x.undo(), Checks.STATE);
    s.due("none went back", x.count(2), 35);
    x.halves(2);
    s.due("two anew", x.undo(), 1);
    s.due("the spot ahead of it", x.person(0, 0), 36);
    x.halves(26);
    s.due("24 again", x.undo(), 23);
    s.due("the spot ahead of it", x.person(0, 0), 59);
  }

  private void halves() {
    s.promise(9, "n HALVES (1 to 60) go by: ERRANDS that were done in them (bits).");
    ErrandLanes x = Checks.on("path 30 1;person fat 0 1 60;person boy 2 0 0;person cow 4 1 4;person monk 6 1 8;");
    s.due("1", x.halves(1), 0);
    s.due("1 more: 1 is at 0, 3 at 8", x.halves(1), 10);
    s.due("halves", x.count(2), 2);
    s.due("57", x.halves(57), 0);
    s.due("1: 0 is at 60", x.halves(1), 1);
    s.due("60", x.halves(60), 0);
    s.due("halves", x.count(2), 120);
    ErrandLanes six = Checks.on("path 9 1;person fat 0 1 18;person boy 18 0 0;person monk 2 1 4;"
        + "person widow 4 1 6;person cow 8 0 0;person fat 6 0 16;");
    s.due("all but the cow's in 60", six.halves(60), 47);
    s.due("nothing more", six.halves(60), 0);
  }

  private void halvesRefused() {
    s.promise(9, "BAD; STATE: no PATH (ahead of BAD);");
    ErrandLanes x = new ErrandLanes();
    s.due("no path", x.halves(1), Checks.STATE);
    s.due("ahead of BAD, 0", x.halves(0), Checks.STATE);
    s.due("ahead of BAD, 61", x.halves(61), Checks.STATE);
    Checks.read(x, "path 2 1;" + TWO);
    for (int n : new int[] {0, -1, 61, 120, Integer.MIN_VALUE, Integer.MAX_VALUE}) {
      s.due("halves(" + n + ")", x.halves(n), Checks.BAD);
    }
    s.due("none went by", x.count(2), 0);
    stands(x, 0, 0, 1, 0);
  }

  private void undos() {
    s.promise(10, "The latest HALF is undone: how many can be undone yet.");
    ErrandLanes x = Checks.on("path 2 0;person fat 0 1 2;person boy 4 0 2;");
    s.due("both are done", x.halves(2), 3);
    stands(x, 0, 2, 0, 1);
    s.due("one yet", x.undo(), 1);
    stands(x, 0, 1, 1, 0);
    stands(x, 1, 3, 0, 1);
    s.due("done no more", x.count(4), 0);
    s.due("none yet", x.undo(), 0);
    stands(x, 0, 0, 1, 0);
    s.due("halves", x.count(2), 0);
    s.due("done anew", x.halves(2), 3);

    s.promise(10, "STATE: none.");
    ErrandLanes y = new ErrandLanes();
    s.due("no path", y.undo(), Checks.STATE);
    Checks.read(y, "path 2 0;" + TWO);
    s.due("no half", y.undo(), Checks.STATE);
    y.halves(1);
    y.undo();
    s.due("all undone", y.undo(), Checks.STATE);
    stands(y, 0, 0, 1, 0);
  }

  private void persons() {
    s.promise(11, "Of one: 0 SPOT, 1 WAY (0 down, 1 up; of a cow, too), 2 ERRAND.");
    ErrandLanes x = Checks.on("path 9 0;person fat 6 1 0;person cow 4 1 2;person cow 2 0 2;");
    x.halves(5);
    int[][] due = {{11, 1, 0}, {4, 1, 1}, {2, 0, 2}};
    for (int p = 0; p < 3; p++) {
      for (int what = 0; what < 3; what++) {
        s.due("person(" + p + ", " + what + ")", x.person(p, what), due[p][what]);
      }
    }

    s.promise(11, "BAD.");
    ErrandLanes y = Checks.on("path 2 0;" + TWO);
    for (int p : NOBODY) {
      s.due("person(" + p + ", 0)", y.person(p, 0), Checks.BAD);
    }
    for (int what : new int[] {-1, 3, 4, Integer.MIN_VALUE, Integer.MAX_VALUE}) {
      s.due("person(1, " + what + ")", y.person(1, what), Checks.BAD);
    }
    s.due("the last one", y.person(1, 2), 1);
  }

  private void errands() {
    s.promise(12, "Of an ERRAND: 0 GOAL, 1 whether it is done (1, 0), 2 who has it, 3 his SPOT.");
    ErrandLanes x = Checks.on("path 4 0;person fat 2 1 8;person boy 4 0 4;");
    x.halves(2);
    int[][] due = {{8, 0, 1, 4}, {4, 1, 0, 2}};
    for (int e = 0; e < 2; e++) {
      for (int what = 0; what < 4; what++) {
        s.due("errand(" + e + ", " + what + ")", x.errand(e, what), due[e][what]);
      }
    }

    s.promise(12, "BAD.");
    ErrandLanes y = Checks.on("path 2 0;" + TWO);
    for (int e : NOBODY) {
      for (int what = 0; what < 4; what++) {
        s.due("errand(" + e + ", " + what + ")", y.errand(e, what), Checks.BAD);
      }
    }
    for (int what : new int[] {-1, 4, 5, Integer.MIN_VALUE, Integer.MAX_VALUE}) {
      s.due("errand(1, " + what + ")", y.errand(1, what), Checks.BAD);
    }
    s.due("the last one", y.errand(1, 3), 4);
  }
}
