/** Boundary cases of promises 6 to 8, and of the texts in terms 1, but their faults. */
final class TextSentences {
  static final String SIX = "path 9 0;person fat 0 0 2;person boy 2 0 2;person monk 4 0 2;"
      + "person widow 6 0 2;person cow 8 0 2;person fat 10 0 2;";

  private final Sentences s;

  TextSentences(Sentences s) {
    this.s = s;
  }

  void all() {
    feeds();
    feedsRefused();
    tape();
    blanks();
    tokens();
    lanes();
    persons();
    people();
    standsInPlace();
    paths();
    faultNumbers();
  }

  private ErrandLanes fits(String text, int people) {
    ErrandLanes x = new ErrandLanes();
    s.due("'" + text + "'", Checks.read(x, text), people);
    s.due("fault of '" + text + "'", x.fault(), 0);
    return x;
  }

  private void faulty(String text, int place, int fault) {
    ErrandLanes x = new ErrandLanes();
    s.due("'" + text + "'", Checks.read(x, text), -1000100 - place);
    s.due("fault of '" + text + "'", x.fault(), fault);
  }

  private void feeds() {
    s.promise(6, "The lowest n bytes of w (1 to 8), the highest of them first, come behind the tape: "
        + "how many it has.");
    ErrandLanes x = new ErrandLanes();
    s.due("1 byte, below others", x.feed(0x7A7A7A7A7A7A7A00L + 'p', 1), 1);
    s.due("2 bytes", x.feed(0x7A7A000000000000L + ('a' << 8) + 't', 2), 3);
    s.due("8 bytes", x.feed(0x682030322030203BL, 8), 11);
    s.due("they are 'path 02 0 ;'", x.path(), 0);
    s.due("8 bytes whose highest bits are set", x.feed(-1L, 8), 8);
    s.due("1 more", x.feed(-1L, 1), 9);

    s.promise(6, "the highest of them first");
    ErrandLanes z = new ErrandLanes();
    z.feed(0x7061746820333020L, 8);
    z.feed(0x323BL, 2);
    s.due("'path 30 2;', not 'path 03', not ';2'", z.path(), 0);
    z.feed(0x7061746820313320L, 8);
    z.feed(0x3B32L, 2);
    s.due("'path 13 ;2'", z.path(), -1000108);
  }

  private void feedsRefused() {
    s.promise(6, "BAD: n;");
    ErrandLanes x = new ErrandLanes();
    for (int n : new int[] {0, 9, -1, 16, 64, Integer.MIN_VALUE, Integer.MAX_VALUE}) {
      s.due("feed(';', " + n + ")", x.feed(';', n), Checks.BAD);
    }
    s.due("none came", x.count(5), 0);

    s.promise(6, "FULL: none comes.");
    Checks.feed(x, " ".repeat(391) + "path 2 0");
    s.due("399 are there", x.count(5), 399);
    s.due("two more", x.feed(0x3B3BL, 2), Checks.FULL);
    s.due("eight more", x.feed(0x3B3B3B3B3B3B3B3BL, 8), Checks.FULL);
    s.due("nine: BAD is ahead", x.feed(0, 9), Checks.BAD);
    s.due("none came", x.count(5), 399);
    s.due("one more", x.feed(';', 1), 400);
    s.due("and one", x.feed(';', 1), Checks.FULL);
    s.due("all that came is read", x.path(), 0);
  }

  private void tape() {
    s.terms(1, "THE TAPE has at most 400 bytes");
    ErrandLanes x = new ErrandLanes();
    for (int i = 1; i <= 50; i++) {
      s.due("8 bytes, " + i + " times", x.feed(0x2020202020202020L, 8), 8 * i);
    }
    s.due("the 401st", x.feed(' ', 1), Checks.FULL);
    s.due("8 more", x.feed(0, 8), Checks.FULL);
    s.due("how many", x.count(5), 400);
    s.due("all of them are read", x.path(), -1000500);
    s.due("the tape has room again", Checks.feed(x, " ".repeat(400)), 400);
    s.due("for no more", x.feed(' ', 1), Checks.FULL);
  }

  private void blanks() {
    s.terms(1, "bytes 32 and 10 ahead of, between, behind these, as many as wanted");
    fits(" \n  path 2 0;", 0);
    fits("path  2\n0\n\n;", 0);
    fits("path 2 0; \n\n ", 0);
    fits("path 2 0;\nperson \n fat\n0\n0\n0\n;\n", 1);
    fits(" ".repeat(191) + "path" + "\n".repeat(200) + "2 0; ", 0);
    for (int b : new int[] {0, 9, 11, 12, 13, 31, 33, 127, 138, 160, 255}) {
      faulty("path" + (char) b + "2 0;", 4, 1);
      faulty((char) b + "path 2 0;", 0, 1);
      faulty("path 2 0;" + (char) b, 9, 1);
    }

    s.terms(1, "(none is needed where one ends without)");
    fits("path2 0;", 0);
    fits("path2 0;person fat0 0 0;person cow2 1 4;", 2);
    faulty("path20;", 6, 1);
    faulty("path 2 00;person fat00 0;", 24, 1);
    faulty("path 2 0;personfat 0 0 0;", 9, 1);
  }

  private void tokens() {
    s.terms(1, "NAMES (letters a to z)");
    faulty("patha 2 0;", 0, 1);
    faulty("pathz 2 0;", 0, 1);
    faulty("apath 2 0;", 0, 1);
    faulty("pat 2 0;", 0, 1);
    faulty("path`2 0;", 4, 1);
    faulty("path{2 0;", 4, 1);
    faulty("pathA2 0;", 4, 1);
    faulty("PATH 2 0;", 0, 1);
    faulty("path 2 0;person Fat 0 0 0;", 16, 1);
    faulty("path 2 0;person " + (char) ('f' + 128) + "at 0 0 0;", 16, 1);

    s.terms(1, "NUMBERS (figures, 3 at most)");
    fits("path 002 001;", 0);
    fits("path 030 0;person fat 060 001 058;", 1);
    faulty("path 0002 0;", 5, 1);
    faulty("path 2/0;", 6, 1);
    faulty("path 2:0;", 6, 1);
    faulty("path 2.0;", 6, 1);
    faulty("path -2 0;", 5, 1);
    faulty("path +2 0;", 5, 1);

    s.terms(1, "SIGNS ;");
    faulty("path 2 0,", 8, 1);
    faulty("path 2 0:", 8, 1);
    faulty("path 2 0<", 8, 1);
    faulty("path 2 0;;", 9, 1);
    faulty(";path 2 0;", 0, 1);
  }

  private void lanes() {
    s.terms(1, "path: path { person }");
    fits("path 2 0;", 0);
    fits("path 2 0;person fat 0 0 0;", 1);
    fits(SIX, 6);
    faulty("person fat 0 0 0;path 2 0;", 0, 1);
    faulty("path 2 0;path 2 0;", 9, 1);
    faulty("path 2 0;person fat 0 0 0;path 2 0;", 26, 1);

    s.terms(1, "(2 to 30 yards:");
    fits("path 2 0;", 0);
    fits("path 30 0;", 0);
    faulty("path 1 0;", 5, 2);
    faulty("path 0 0;", 5, 2);
    faulty("path 31 0;", 5, 2);
    faulty("path 999 0;", 5, 2);

    s.terms(1, "SPOTS 0 to twice LENGTH, each half a yard;");
    s.due("spot 4 of 2 yards", fits("path 2 0;person fat 4 0 4;", 1).person(0, 0), 4);
    faulty("path 2 0;person fat 6 0 4;", 20, 2);
    faulty("path 2 0;person fat 5 0 4;", 20, 2);
    faulty("path 2 0;person fat 4 0 6;", 24, 2);
    s.due("spot 60 of 30", fits("path 30 0;person fat 60 0 60;", 1).person(0, 0), 60);
    faulty("path 30 0;person fat 62 0 60;", 21, 2);
    faulty("path 30 0;person fat 60 0 62;", 26, 2);
    faulty("path 30 0;person fat 61 0 60;", 21, 2);
    fits("path 15 0;person fat 30 0 0;", 1);
    faulty("path 15 0;person fat 32 0 0;", 21, 2);

    s.terms(1, "each half a yard; 0 to 2).");
    fits("path 2 0;", 0);
    fits("path 2 1;", 0);
    fits("path 2 2;", 0);
    faulty("path 2 3;", 7, 2);
    faulty("path 2 999;", 7, 2);
  }

  private void persons() {
    s.terms(1, "(SORT: 'fat' | 'boy' | 'monk' | 'widow' | 'cow';");
    String[] sorts = {"fat", "boy", "widow", "monk", "cow"};
    for (int i = 0; i < sorts.length; i++) {
      s.due(sorts[i], fits("path 2 0;person " + sorts[i] + " 0 0 0;", 1).kind(0), i + 1);
      faulty("path 2 0;person " + sorts[i] + "s 0 0 0;", 16, 1);
      faulty("path 2 0;person " + sorts[i].substring(1) + " 0 0 0;", 16, 1);
    }
    faulty("path 2 0;person person 0 0 0;", 16, 1);
    faulty("path 2 0;person cat 0 0 0;", 16, 1);
    faulty("path 2 0;person 1 0 0 0;", 16, 1);

    s.terms(1, "an even SPOT, each once;");
    fits("path 9 0;person fat 18 0 0;person fat 0 0 0;person fat 2 0 0;", 3);
    faulty("path 9 0;person fat 1 0 0;", 20, 2);
    faulty("path 9 0;person fat 17 0 0;", 20, 2);
    faulty("path 9 0;person fat 2 0 0;person boy 2 0 0;", 37, 2);
    faulty("path 9 0;person fat 2 0 0;person boy 4 0 0;person monk 2 0 0;", 55, 2);
    faulty("path 9 0;person cow 0 0 0;person cow 0 0 0;", 37, 2);
    faulty("path 9 0;person fat 2 0 0;person boy 4 0 0;person monk 4 0 0;", 55, 2);
    faulty("path 9 0;person fat 2 0 0;person boy 002 0 0;", 37, 2);

    s.terms(1, "0 down, 1 up;");
    s.due("0", fits("path 2 0;person fat 2 0 0;", 1).person(0, 1), 0);
    s.due("1", fits("path 2 0;person fat 2 1 0;", 1).person(0, 1), 1);
    s.due("a cow's", fits("path 2 0;person cow 2 1 0;", 1).person(0, 1), 1);
    faulty("path 2 0;person fat 2 2 0;", 22, 2);
    faulty("path 2 0;person fat 2 10 0;", 22, 2);

    s.terms(1, "an even SPOT; PEOPLE");
    s.due("goal 18", fits("path 9 0;person fat 2 0 18;", 1).errand(0, 0), 18);
    s.due("goal 0", fits("path 9 0;person fat 2 0 0;", 1).errand(0, 0), 0);
    fits("path 9 0;person fat 2 0 6;person boy 4 0 6;", 2);
    faulty("path 9 0;person fat 2 0 1;", 24, 2);
    faulty("path 9 0;person fat 2 0 17;", 24, 2);
    faulty("path 9 0;person fat 2 0 20;", 24, 2);
  }

  private void people() {
    s.terms(1, "PEOPLE 0 .. 5, 6 at most;");
    ErrandLanes x = fits(SIX, 6);
    s.due("how many", x.count(1), 6);
    for (int p = 0; p < 6; p++) {
      s.due("spot of " + p, x.person(p, 0), 2 * p);
    }
    s.due("there is no 6", x.person(6, 0), Checks.BAD);
    s.due("nor -1", x.person(-1, 0), Checks.BAD);
    faulty(SIX + "person fat 12 0 2;", SIX.length(), 3);

    s.terms(1, "each has the ERRAND of his number at first, which is to come to GOAL)");
    ErrandLanes y = fits("path 9 0;person cow 8 0 4;person fat 2 1 18;person boy 0 0 6;", 3);
    int[] goals = {4, 18, 6};
    for (int p = 0; p < 3; p++) {
      s.due("errand of " + p, y.person(p, 2), p);
      s.due("who has " + p, y.errand(p, 2), p);
      s.due("goal of " + p, y.errand(p, 0), goals[p]);
    }
  }

  private void standsInPlace() {
    s.terms(1, "A PATH that is read stands in place of the one before (none at first): HALF 0;");
    ErrandLanes x = new ErrandLanes();
    s.due("none at first", x.halves(1), Checks.STATE);
    Checks.read(x, "path 3 1;person fat 2 1 6;person cow 4 0 4;");
    x.halves(30);
    s.due("another", Checks.read(x, "path 4 0;person boy 6 0 0;"), 1);
    s.due("its people", x.count(1), 1);
    s.due("half 0", x.count(2), 0);
    s.due("no half to undo", x.count(3), 0);
    s.due("undo()", x.undo(), Checks.STATE);
    s.due("none done", x.count(4), 0);
    s.due("kind", x.kind(0), 2);
    s.due("spot", x.person(0, 0), 6);
    s.due("goal", x.errand(0, 0), 0);
    s.due("nobody else", x.person(1, 0), Checks.BAD);
    x.halves(16);
    s.due("its length: 6 down, 8 up, 2 down, in 16", x.person(0, 0), 6);
    s.due("the same anew", Checks.read(x, "path 4 0;"), 0);
    s.due("nobody", x.count(1), 0);
    s.due("halves", x.count(2), 0);

    s.terms(1, "an ERRAND whose GOAL is where it is, is done;");
    ErrandLanes y = fits("path 4 0;person boy 6 0 6;person fat 0 1 2;person cow 2 1 2;person cow 4 0 0;", 4);
    int[] done = {1, 0, 1, 0};
    for (int e = 0; e < 4; e++) {
      s.due("errand " + e, y.errand(e, 1), done[e]);
      s.due("done behind none: " + e, y.done(e, 0) == 0 ? 1 : 0, done[e]);
    }
    s.due("how many", y.count(4), 2);

    s.terms(1, "IMAGES and ROWS stay.");
    ErrandLanes z = fits("path 3 1;person fat 2 1 6;", 1);
    z.halves(2);
    z.image(0);
    z.image(1);
    z.row(0, 0, 7);
    z.row(7, 1, 40);
    s.due("another path", Checks.read(z, "path 4 0;"), 0);
    s.due("rows", z.count(0), 2);
    s.due("row 0", z.drop(0), 7);
    s.due("row 7", z.drop(7), 40);
    s.due("image 0", z.restore(0), 1);
    s.due("its spot", z.person(0, 0), 4);
    Checks.read(z, "path 4 0;");
    s.due("image 1", z.restore(1), 1);
    s.due("its halves", z.count(2), 2);
  }

  private void paths() {
    s.promise(7, "The tape, empty then, is read: how many PEOPLE there are.");
    ErrandLanes x = new ErrandLanes();
    s.due("none", Checks.read(x, "path 2 0;"), 0);
    s.due("empty then", x.count(5), 0);
    s.due("six", Checks.read(x, SIX), 6);
    s.due("empty then", x.count(5), 0);
    s.due("faulty", Checks.read(x, "path 2 0;;      "), -1000109);
    s.due("empty then", x.count(5), 0);
    s.due("nothing of it is read again", Checks.read(x, "path 2 0"), -1000108);
    Checks.read(x, "pathpathpath");
    s.due("nor a name's end", Checks.read(x, "path"), -1000104);
    Checks.read(x, "path 2000000");
    s.due("nor a number's end", Checks.read(x, "path 2"), -1000106);
    s.due("an empty tape", x.path(), -1000100);

    s.promise(7, "-1000100 less the place of a FAULT:");
    s.due("place 0", Checks.read(x, "paths"), -1000100);
    s.due("place 1", Checks.read(x, " ;"), -1000101);
    s.due("place 399", Checks.read(x, " ".repeat(399) + ";"), -1000499);
    s.due("place 400", Checks.read(x, " ".repeat(400)), -1000500);

    s.promise(7, "all but the tape, and what fault() tells, stays.");
    ErrandLanes y = Checks.on("path 3 1;person fat 2 1 6;person cow 4 0 4;");
    y.row(0, 0, 7);
    y.halves(2);
    y.image(0);
    y.halves(3);
    y.ask(0, 0);
    y.drop(1);
    s.due("faulty at its end", Checks.read(y, "path 2 0;person boy 0 0 4;person boy 2 0 1;"), -1000141);
    s.due("fault()", y.fault(), 2);
    int[] counts = {1, 2, 5, 5, 2, 0};
    for (int what = 0; what < 6; what++) {
      s.due("count(" + what + ")", y.count(what), counts[what]);
    }
    s.due("kind", y.kind(0), 1);
    s.due("spot", y.person(0, 0), 5);
    s.due("way", y.person(0, 1), 0);
    s.due("goal", y.errand(0, 0), 6);
    s.due("trace", y.trace(0), 11);
    s.due("status", y.status(), 1);
    s.due("undo()", y.undo(), 4);
    s.due("spot then", y.person(0, 0), 6);
    s.due("image", y.restore(0), 1);
    s.due("its spot", y.person(0, 0), 4);
    ErrandLanes z = new ErrandLanes();
    Checks.read(z, "path 2 0;person fat 0 0 0");
    s.due("no path stays none", z.halves(1), Checks.STATE);
    s.due("nobody of it", z.count(1), 0);
  }

  private void faultNumbers() {
    s.promise(8, "The number of the latest FAULT; 0 before one.");
    ErrandLanes x = new ErrandLanes();
    s.due("at first", x.fault(), 0);
    Checks.read(x, "path 2 0;");
    s.due("behind a path", x.fault(), 0);
    Checks.read(x, "path 1 0;");
    s.due("2", x.fault(), 2);
    Checks.read(x, SIX + "person");
    s.due("3", x.fault(), 3);
    Checks.read(x, "path 2 0;");
    s.due("it stays behind a path", x.fault(), 3);
    x.path();
    s.due("1", x.fault(), 1);
    x.halves(1);
    x.feed(0, 9);
    x.restore(0);
    s.due("refusals are none", x.fault(), 1);
  }
}
