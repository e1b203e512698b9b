/** Boundary cases of promises 26 and 27, of the terms ahead of part 1, and of how long an object is used. */
final class WholeSentences {
  private static final String TWO = "path 3 1;person fat 0 1 6;person cow 2 0 2;";

  private final Sentences s;

  WholeSentences(Sentences s) {
    this.s = s;
  }

  void all() {
    counts();
    statuses();
    numbers();
    setsAreBits();
    refusals();
    findings();
    changesNothing();
    constants();
    longUse();
  }

  private void counted(ErrandLanes x, int... due) {
    for (int what = 0; what < due.length; what++) {
      s.due("count(" + what + ")", x.count(what), due[what]);
    }
  }

  private void counts() {
    s.promise(26, "How many: 0 ROWS, 1 PEOPLE, 2 HALVES gone, 3 HALVES that can be undone, "
        + "4 ERRANDS that are done, 5 bytes on the tape.");
    ErrandLanes x = new ErrandLanes();
    counted(x, 0, 0, 0, 0, 0, 0);
    for (int row = 0; row < 8; row++) {
      x.row(row, 0, 0);
    }
    x.row(3, 1, 40);
    counted(x, 8, 0, 0, 0, 0, 0);
    Checks.feed(x, TWO);
    counted(x, 8, 0, 0, 0, 0, TWO.length());
    x.path();
    counted(x, 8, 2, 0, 0, 1, 0);
    x.halves(24);
    counted(x, 8, 2, 24, 24, 2, 0);
    x.halves(1);
    counted(x, 8, 2, 25, 24, 2, 0);
    x.drop(0);
    x.undo();
    counted(x, 7, 2, 24, 23, 2, 0);
    Checks.read(x, TextSentences.SIX.replace(" 2;", " 4;"));
    counted(x, 7, 6, 0, 0, 1, 0);
    Checks.feed(x, " ".repeat(400));
    counted(x, 7, 6, 0, 0, 1, 400);

    s.promise(26, "BAD.");
    for (int what : new int[] {-1, 6, 7, Integer.MIN_VALUE, Integer.MAX_VALUE}) {
      s.due("count(" + what + ")", x.count(what), Checks.BAD);
    }
  }

  private void statuses() {
    s.promise(27, "0: it had none, or there was none.");
    ErrandLanes x = new ErrandLanes();
    s.due("at first", x.status(), 0);
    x.row(8, 0, 0);
    x.began(0, 0, 0);
    x.as(0, 0);
    s.due("behind BAD and STATE", x.status(), 0);

    s.promise(27, "Of the latest call with a ROW, or as(), that was not BAD, STATE, FULL: the number of its FINDING;");
    x.row(0, 0, -1);
    s.due("row: SIZE", x.status(), 4);
    x.began(0, 0, 0);
    s.due("STATE leaves it", x.status(), 4);
    x.row(0, 0, 41);
    x.set(8, 0, 0);
    x.copy(-1, 0, 0, 0, 0);
    x.drop(8);
    s.due("BAD leaves it", x.status(), 4);
    x.row(0, 0, 3);
    s.due("row", x.status(), 0);
    x.set(1, 0, 0);
    s.due("set: NULL", x.status(), 1);
    x.set(0, 0, 0);
    s.due("set", x.status(), 0);
    x.copy(0, 0, 0, 0, 4);
    s.due("copy: PLACE", x.status(), 2);
    x.copy(0, 0, 0, 0, 3);
    s.due("copy", x.status(), 0);
    x.drop(1);
    s.due("drop: NULL", x.status(), 1);
    x.row(1, 1, 0);
    x.copy(0, 0, 1, 0, 0);
    s.due("copy: STORE", x.status(), 5);
    x.drop(1);
    s.due("drop", x.status(), 0);
    x.row(2, 2, 1);
    x.drop(1);
    s.due("an item that is as NULL is", x.set(2, 0, Checks.NULL), Checks.NULL);
    s.due("is no finding", x.status(), 0);
    x.drop(1);
    s.due("an item that is as BAD is", x.set(2, 0, Checks.BAD), Checks.BAD);
    s.due("is no refusal", x.status(), 0);
    statusesOfPaths(x);
  }

  private void statusesOfPaths(ErrandLanes x) {
    Checks.read(x, TWO);
    x.as(0, 5);
    s.due("as: KIND", x.status(), 3);
    x.halves(1);
    x.undo();
    x.undo();
    x.feed(0, 9);
    x.path();
    x.image(0);
    x.restore(0);
    x.ask(0, 0);
    x.kind(0);
    x.soon(0);
    x.clean(0, 0, 0, 0);
    x.fault();
    x.count(0);
    s.due("other calls leave it", x.status(), 3);
    x.began(0, 0, 0);
    s.due("began", x.status(), 0);
    x.began(5, 0, 0);
    s.due("began: NULL", x.status(), 1);
    x.as(0, 6);
    x.as(2, 0);
    s.due("as: BAD leaves it", x.status(), 1);
    x.as(0, 1);
    s.due("as", x.status(), 0);
    x.row(1, 0, 1);
    x.began(1, 0, 0);
    s.due("began: PLACE", x.status(), 2);
    x.set(0, 0, 9);
    x.drop(7);
    x.began(0, 0, 0);
    s.due("began: BAD of an item leaves it", x.status(), 1);
  }

  private void numbers() {
    s.terms(0, "Numbers go from 0 on.");
    ErrandLanes x = Checks.on(TWO);
    s.due("a first row", x.row(0, 0, 1), 1);
    s.due("its first item", x.set(0, 0, 5), 5);
    s.due("the first of the people", x.person(0, 0), 0);
    s.due("the first errand", x.errand(0, 0), 6);
    s.due("the first image", x.image(0), 1);
    s.due("the first of those asked", x.ask(0, 1), 0);
    s.due("the first of the trace", x.trace(0), 21);
    s.due("none below: row", x.row(-1, 0, 1), Checks.BAD);
    s.due("item", x.set(0, -1, 5), Checks.PLACE);
    s.due("people", x.person(-1, 0), Checks.BAD);
    s.due("errand", x.errand(-1, 0), Checks.BAD);
    s.due("image", x.image(-1), Checks.BAD);
    s.due("trace", x.trace(-1), Checks.NONE);
  }

  private void setsAreBits() {
    s.terms(0, "Sets are bits.");
    ErrandLanes x = Checks.on("path 9 0;person cow 0 0 4;person fat 18 0 4;person cow 2 0 4;person cow 4 0 8;"
        + "person cow 6 0 8;person boy 16 1 8;");
    s.due("1 and 5 hand it about", x.secret(5, 120), 34);
    s.due("1 at first", x.secret(1, 0), 2);
    s.due("5 at first", x.secret(5, 0), 32);
    s.due("neither of them", x.clean(5, 29, 120, 0), 4);
    s.due("not 5", x.clean(1, 32, 0, 0), 4);
    s.due("not 5, not 0", x.clean(5, 33, 0, 0), 0);
    s.due("done", x.halves(60), 34);
  }

  private void refusals() {
    s.terms(0, "Refusals are answers, the first of these that fits, but as told: BAD (a number is not as told; "
        + "there is no such thing), STATE (as told), FULL (as told), then FINDINGS, of several the first in time");
    ErrandLanes x = new ErrandLanes();
    s.due("BAD ahead of STATE", x.image(2), Checks.BAD);
    s.due("BAD ahead of STATE", x.restore(2), Checks.BAD);
    s.due("STATE ahead of BAD, as told", x.halves(61), Checks.STATE);
    s.due("STATE ahead of BAD, as told", x.soon(2), Checks.STATE);
    s.due("STATE ahead of BAD, as told", x.began(8, 121, 2), Checks.STATE);
    s.due("BAD ahead of NULL", x.copy(0, 0, 8, 0, 0), Checks.BAD);
    s.due("BAD ahead of SIZE", x.row(0, 3, -1), Checks.BAD);
    x.row(0, 0, 2);
    x.row(1, 1, 2);
    s.due("NULL ahead of PLACE", x.copy(0, -1, 2, 0, 0), Checks.NULL);
    s.due("NULL ahead of PLACE", x.set(2, 40, 0), Checks.NULL);
    s.due("STORE ahead of PLACE", x.copy(0, -1, 1, 0, 0), Checks.STORE);
    Checks.feed(x, " ".repeat(400));
    s.due("BAD ahead of FULL", x.feed(0, 9), Checks.BAD);
    s.due("FULL", x.feed(0, 1), Checks.FULL);
    x.path();
    s.due("BAD, there is no such thing", x.person(0, 0), Checks.BAD);
    Checks.read(x, TWO);
    s.due("BAD ahead of KIND", x.as(2, 5), Checks.BAD);
    s.due("KIND", x.as(0, 5), Checks.KIND);
    s.due("BAD ahead of NULL", x.began(7, 121, 0), Checks.BAD);
    x.row(3, 0, 1);
    x.set(3, 0, 9);
    s.due("PLACE, as told, ahead of BAD", x.began(3, 0, 0), Checks.PLACE);
  }

  private void findings() {
    s.terms(0, "-1000010 less 1 NULL (a ROW that is missing), 2 PLACE (no such place of a ROW), "
        + "3 KIND (one of the PEOPLE that is not that), 4 SIZE (fewer than none), 5 STORE (ROWS of two LANES).");
    ErrandLanes x = Checks.on(TWO);
    s.due("1 NULL", x.drop(0), -1000011);
    s.due("4 SIZE", x.row(0, 0, -1), -1000014);
    s.due("none is no fewer", x.row(0, 0, 0), 0);
    s.due("2 PLACE", x.set(0, 0, 0), -1000012);
    s.due("3 KIND", x.as(1, 1), -1000013);
    x.row(1, 1, 0);
    s.due("5 STORE", x.copy(0, 0, 1, 0, 0), -1000015);
  }

  private void changesNothing() {
    s.terms(0, "What is refused, or found, changes nothing but status().");
    ErrandLanes x = Checks.on(TWO);
    Checks.fill(x, 0, 0, 0, 1);
    x.row(1, 1, 2);
    x.halves(2);
    x.image(0);
    x.ask(0, 1);
    x.feed(' ', 1);
    x.row(0, 0, -1);
    x.row(0, 3, 2);
    x.row(0, 0, 41);
    x.set(0, 2, 7);
    x.copy(0, 0, 0, 1, 2);
    x.copy(0, 1, 1, 0, 1);
    x.drop(2);
    x.feed(' ', 9);
    x.halves(61);
    x.image(2);
    x.restore(1);
    x.as(0, 5);
    x.ask(2, 0);
    x.began(2, 0, 0);
    x.began(1, 0, 2);
    counted(x, 2, 2, 2, 2, 1, 1);
    s.due("spot", x.person(0, 0), 2);
    s.due("row 0", x.began(0, 0, 0), 2);
    s.due("trace", x.trace(0), 21);
    s.due("fault", x.fault(), 0);
    s.due("row 1", x.drop(1), 2);
    s.due("row 0", x.drop(0), 2);
    s.due("image 0", x.restore(0), 1);
  }

  /** FaceTest looks at the rest of the face. */
  private void constants() {
    s.face("public static final int NONE = -1000000, BAD = -1000001, STATE = -1000002, FULL = -1000003;");
    s.due("NONE", ErrandLanes.NONE, -1000000);
    s.due("BAD", ErrandLanes.BAD, -1000001);
    s.due("STATE", ErrandLanes.STATE, -1000002);
    s.due("FULL", ErrandLanes.FULL, -1000003);
  }

  private void longUse() {
    s.use("An object is used for at most 512 calls after it has been made;");
    ErrandLanes x = new ErrandLanes();
    int calls = (TWO.length() + 7) / 8 + 1;
    Checks.read(x, TWO);
    for (; calls < 509; calls++) {
      x.halves(19);
    }
    s.due("call 510", x.count(2), 19 * (509 - (TWO.length() + 7) / 8 - 1));
    s.due("call 511", x.undo(), 23);
    s.due("call 512", x.count(3), 23);
  }
}
