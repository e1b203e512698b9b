/** Boundary cases of promises 1 to 5, and of the rows in terms 1. */
final class RowSentences {
  private static final int MIN = Integer.MIN_VALUE;
  private static final int MAX = Integer.MAX_VALUE;
  private static final String COWS = "path 9 1;person cow 0 0 0;person cow 2 0 0;person cow 4 0 0;"
      + "person cow 6 0 0;person cow 8 0 0;person cow 10 0 0;";
  /** One more than each number of a row, and one less. */
  private static final int[] NO_ROWS = {-1, 8, 9, 16, MIN, MAX};

  private final Sentences s;

  RowSentences(Sentences s) {
    this.s = s;
  }

  void all() {
    noPath();
    missingAtFirst();
    lanes();
    itemNumbers();
    zeroAtFirst();
    rows();
    sets();
    copies();
    copiesRefused();
    drops();
  }

  /** Whether an item is v (0 .. 5): nothing tells an item but began(), here of six cows. */
  private static boolean isItem(ErrandLanes x, int row, int lane, int i, int v) {
    Checks.fill(x, 7, lane, 0, 1, 2, 3, 4, 5);
    x.set(7, v, (v + 1) % 6);
    boolean wasNot = x.began(7, 0, 0) == 0;
    return x.copy(row, i, 7, v, 1) == 1 && x.began(7, 0, 0) == 1 && wasNot;
  }

  private void items(ErrandLanes x, int row, int lane, int... due) {
    for (int i = 0; i < due.length; i++) {
      s.isSo("item " + i + " of row " + row + " is " + due[i], isItem(x, row, lane, i, due[i]));
    }
  }

  private void noPath() {
    s.promise(1, "No PATH.");
    ErrandLanes x = new ErrandLanes();
    s.due("count(1)", x.count(1), 0);
    s.due("halves(1)", x.halves(1), Checks.STATE);
    s.due("undo()", x.undo(), Checks.STATE);
    s.due("soon(0)", x.soon(0), Checks.STATE);
    s.due("began(0, 0, 0)", x.began(0, 0, 0), Checks.STATE);
    s.due("image(0)", x.image(0), Checks.STATE);
    s.due("image(1)", x.image(1), Checks.STATE);
    s.due("restore(0)", x.restore(0), Checks.STATE);
    s.due("person(0, 0)", x.person(0, 0), Checks.BAD);
    s.due("errand(0, 0)", x.errand(0, 0), Checks.BAD);
    s.due("ahead(0, 0, 0)", x.ahead(0, 0, 0), Checks.BAD);
    s.due("done(0, 0)", x.done(0, 0), Checks.BAD);
    s.due("secret(0, 0)", x.secret(0, 0), Checks.BAD);
    s.due("clean(0, 0, 0, 0)", x.clean(0, 0, 0, 0), Checks.BAD);
    s.due("hands(0, 0, 0)", x.hands(0, 0, 0), Checks.BAD);
    s.due("kind(0)", x.kind(0), Checks.BAD);
    s.due("as(0, 0)", x.as(0, 0), Checks.BAD);
    s.due("ask(0, 0)", x.ask(0, 0), Checks.BAD);
    s.due("a path of nobody is one", Checks.read(x, "path 2 0;"), 0);
    s.due("halves(1) then", x.halves(1), 0);
  }

  private void missingAtFirst() {
    s.terms(1, "ROWS 0 .. 7 are missing (at first)");
    ErrandLanes x = new ErrandLanes();
    s.due("count(0)", x.count(0), 0);
    for (int row = 0; row < 8; row++) {
      s.due("drop(" + row + ")", x.drop(row), Checks.NULL);
      s.due("set(" + row + ", 0, 0)", x.set(row, 0, 0), Checks.NULL);
      s.due("row(" + row + ", 0, 1)", x.row(row, 0, 1), 1);
      s.due("count(0)", x.count(0), row + 1);
    }
    s.due("there is no row 8", x.drop(8), Checks.BAD);
    s.due("nor row -1", x.drop(-1), Checks.BAD);
  }

  private void lanes() {
    s.terms(1, "have a LANE (0 bytes, 1 shorts, 2 ints)");
    ErrandLanes x = new ErrandLanes();
    x.row(0, 0, 1);
    x.row(1, 1, 1);
    x.row(2, 2, 1);
    s.due("a byte", x.set(0, 0, 0x12348081), -127);
    s.due("a short", x.set(1, 0, 0x12348081), 0xFFFF8081);
    s.due("an int", x.set(2, 0, 0x12348081), 0x12348081);
    s.due("no lane 3", x.row(3, 3, 1), Checks.BAD);
    s.due("no lane -1", x.row(3, -1, 1), Checks.BAD);
  }

  private void itemNumbers() {
    s.terms(1, "0 to 40 ITEMS");
    ErrandLanes x = new ErrandLanes();
    s.due("none", x.row(0, 0, 0), 0);
    s.due("it has no item 0", x.set(0, 0, 1), Checks.PLACE);
    s.due("one", x.row(0, 0, 1), 1);
    s.due("item 0", x.set(0, 0, 1), 1);
    s.due("no item 1", x.set(0, 1, 1), Checks.PLACE);
    s.due("40", x.row(0, 2, 40), 40);
    s.due("item 39", x.set(0, 39, 77), 77);
    s.due("no item 40", x.set(0, 40, 1), Checks.PLACE);
    s.due("41", x.row(1, 2, 41), Checks.BAD);
    s.due("none came of it", x.count(0), 1);
  }

  private void zeroAtFirst() {
    s.terms(1, "ITEMS, 0 at first");
    ErrandLanes x = Checks.on(COWS);
    x.row(0, 0, 3);
    items(x, 0, 0, 0, 0, 0);
    x.row(1, 2, 40);
    s.isSo("item 39 of a row of 40 is 0", isItem(x, 1, 2, 39, 0));
    Checks.fill(x, 2, 1, 1, 2, 3);
    items(x, 2, 1, 1, 2, 3);
    x.row(2, 1, 3);
    items(x, 2, 1, 0, 0, 0);
    Checks.fill(x, 2, 1, 4, 4, 4);
    x.drop(2);
    x.row(2, 1, 3);
    items(x, 2, 1, 0, 0, 0);
  }

  private void rows() {
    s.promise(2, "A ROW of a LANE with n ITEMS, in place of what is there: n.");
    ErrandLanes x = new ErrandLanes();
    s.due("row(0, 2, 5)", x.row(0, 2, 5), 5);
    x.set(0, 4, 70000);
    s.due("row(0, 0, 3)", x.row(0, 0, 3), 3);
    s.due("still one", x.count(0), 1);
    s.due("of its new lane", x.set(0, 2, 300), 44);
    s.due("of its new length", x.set(0, 3, 1), Checks.PLACE);
    s.due("dropped with it", x.drop(0), 3);
    s.due("row(7, 1, 40)", x.row(7, 1, 40), 40);

    s.promise(2, "BAD: ROW");
    for (int row : NO_ROWS) {
      s.due("row(" + row + ", 0, 1)", x.row(row, 0, 1), Checks.BAD);
    }
    s.promise(2, "LANE, n above 40");
    for (int lane : new int[] {-1, 3, 4, MIN, MAX}) {
      s.due("row(0, " + lane + ", 1)", x.row(0, lane, 1), Checks.BAD);
    }
    s.promise(2, "n above 40");
    for (int n : new int[] {41, 42, 256, MAX}) {
      s.due("row(0, 0, " + n + ")", x.row(0, 0, n), Checks.BAD);
    }
    s.due("none came of it", x.count(0), 1);
    s.promise(2, "SIZE.");
    s.due("row(0, 0, -1)", x.row(0, 0, -1), Checks.SIZE);
    s.due("status()", x.status(), 4);
    s.due("row(0, 0, MIN)", x.row(0, 0, MIN), Checks.SIZE);
    s.due("row(7, 1, -1)", x.row(7, 1, -1), Checks.SIZE);
    s.due("what was there stays", x.drop(7), 40);
    s.due("row(8, 0, -1): BAD is ahead", x.row(8, 0, -1), Checks.BAD);
    s.due("row(0, 3, -1): BAD is ahead", x.row(0, 3, -1), Checks.BAD);
  }

  private void sets() {
    s.promise(3, "ITEM i becomes v, its lowest bits, as many as the LANE has (read with their sign): "
        + "what it is then.");
    ErrandLanes x = Checks.on(COWS);
    int[][] due = {
      {0, 127, 127}, {0, 128, -128}, {0, -128, -128}, {0, -129, 127}, {0, 255, -1}, {0, 256, 0},
      {0, MAX, -1}, {0, MIN, 0}, {1, 32767, 32767}, {1, 32768, -32768}, {1, -32768, -32768},
      {1, -32769, 32767}, {1, 65535, -1}, {1, 65536, 0}, {1, MAX, -1}, {1, MIN, 0},
      {1, 128, 128}, {2, 65536, 65536}, {2, 32768, 32768}, {2, MAX, MAX}, {2, MIN, MIN}, {2, -1, -1}};
    for (int[] d : due) {
      x.row(0, d[0], 2);
      s.due("lane " + d[0] + ", v " + d[1], x.set(0, 1, d[1]), d[2]);
    }
    x.row(0, 0, 2);
    s.due("259 in bytes", x.set(0, 1, 259), 3);
    items(x, 0, 0, 0, 3);

    s.promise(3, "BAD: ROW; NULL; PLACE.");
    for (int row : NO_ROWS) {
      s.due("set(" + row + ", -1, 0)", x.set(row, -1, 0), Checks.BAD);
    }
    s.promise(3, "NULL; PLACE.");
    s.due("a missing row, ahead of its place", x.set(1, -1, 0), Checks.NULL);
    s.due("status()", x.status(), 1);
    s.promise(3, "PLACE.");
    for (int i : new int[] {-1, 2, 3, 39, 40, 41, MIN, MAX}) {
      s.due("set(0, " + i + ", 5)", x.set(0, i, 5), Checks.PLACE);
    }
    s.due("status()", x.status(), 2);
    items(x, 0, 0, 0, 3);
  }

  private void copies() {
    s.promise(4, "n ITEMS of a from i on come to b from j on, as they were ahead: n.");
    ErrandLanes x = Checks.on(COWS);
    Checks.fill(x, 0, 2, 1, 2, 3, 4, 5);
    s.due("onto itself, one on", x.copy(0, 0, 0, 1, 4), 4);
    items(x, 0, 2, 1, 1, 2, 3, 4);
    x = Checks.on(COWS);
    Checks.fill(x, 0, 2, 1, 2, 3, 4, 5);
    s.due("onto itself, two back", x.copy(0, 2, 0, 0, 3), 3);
    items(x, 0, 2, 3, 4, 5, 4, 5);
    s.due("onto itself", x.copy(0, 0, 0, 0, 5), 5);
    items(x, 0, 2, 3, 4, 5, 4, 5);
    x = Checks.on(COWS);
    Checks.fill(x, 0, 0, 1, 2, 3);
    Checks.fill(x, 1, 0, 4, 5);
    s.due("the last of one to the last of another", x.copy(0, 2, 1, 1, 1), 1);
    items(x, 1, 0, 4, 3);
    items(x, 0, 0, 1, 2, 3);
    s.due("none", x.copy(1, 0, 0, 0, 0), 0);
    items(x, 0, 0, 1, 2, 3);
    s.due("none, from an end to an end", x.copy(1, 2, 0, 3, 0), 0);
    x.row(2, 0, 0);
    s.due("none of none", x.copy(2, 0, 2, 0, 0), 0);
    x.row(3, 1, 40);
    x.row(4, 1, 40);
    s.due("40", x.copy(3, 0, 4, 0, 40), 40);
    s.due("status()", x.status(), 0);
  }

  private void copiesRefused() {
    s.promise(4, "BAD: ROWS; NULL; STORE; PLACE");
    ErrandLanes x = new ErrandLanes();
    x.row(0, 0, 5);
    x.row(1, 0, 3);
    x.row(2, 1, 5);
    x.row(3, 2, 5);
    for (int row : NO_ROWS) {
      s.due("a " + row, x.copy(row, -1, 5, 0, 0), Checks.BAD);
      s.due("b " + row, x.copy(5, -1, row, 0, 0), Checks.BAD);
    }
    s.promise(4, "NULL; STORE; PLACE");
    s.due("a is missing", x.copy(5, -1, 0, 0, 0), Checks.NULL);
    s.due("b is missing", x.copy(0, -1, 5, 0, 0), Checks.NULL);
    s.due("both are", x.copy(6, 0, 5, 0, 0), Checks.NULL);
    s.due("status()", x.status(), 1);
    s.promise(4, "STORE; PLACE");
    s.due("bytes to shorts", x.copy(0, -1, 2, 0, 1), Checks.STORE);
    s.due("ints to bytes, none", x.copy(3, 0, 0, 0, 0), Checks.STORE);
    s.due("shorts to ints", x.copy(2, 0, 3, 0, 5), Checks.STORE);
    s.due("status()", x.status(), 5);
    s.promise(4, "PLACE (i, j, n below 0, or beyond an end).");
    int[][] places = {{-1, 0, 1}, {0, -1, 1}, {0, 0, -1}, {-1, 0, 0}, {0, -1, 0}, {6, 0, 0}, {0, 4, 0},
        {3, 0, 3}, {0, 1, 3}, {0, 0, 4}, {5, 0, 1}, {0, 3, 1}, {MAX, 0, 1}, {0, MAX, 1}, {1, 1, MAX},
        {MAX, MAX, MAX}, {MIN, 0, 1}, {0, MIN, 1}, {0, 0, MIN}, {2, 0, MIN}};
    for (int[] p : places) {
      s.due("copy(0, " + p[0] + ", 1, " + p[1] + ", " + p[2] + ")",
          x.copy(0, p[0], 1, p[1], p[2]), Checks.PLACE);
    }
    s.due("status()", x.status(), 2);
    s.due("to both ends", x.copy(0, 2, 1, 0, 3), 3);
  }

  private void drops() {
    s.promise(5, "A ROW is missing from now on: how many ITEMS it had.");
    ErrandLanes x = new ErrandLanes();
    x.row(0, 0, 40);
    x.row(7, 2, 0);
    s.due("of 40", x.drop(0), 40);
    s.due("of none", x.drop(7), 0);
    s.due("status()", x.status(), 0);
    s.due("count(0)", x.count(0), 0);
    s.due("set", x.set(0, 0, 1), Checks.NULL);
    s.due("copy", x.copy(7, 0, 7, 0, 0), Checks.NULL);
    s.due("it can be made anew", x.row(0, 1, 2), 2);
    s.due("and dropped", x.drop(0), 2);

    s.promise(5, "BAD; NULL.");
    for (int row : NO_ROWS) {
      s.due("drop(" + row + ")", x.drop(row), Checks.BAD);
    }
    s.due("a missing one", x.drop(0), Checks.NULL);
    s.due("status()", x.status(), 1);
  }
}
