/** Promise 1, and what all calls answer where there is no path yet. */
public final class NewObjectTest {
  public static void main(String[] args) {
    Checks c = new Checks("NewObjectTest");
    ErrandLanes x = new ErrandLanes();
    for (int what = 0; what < 6; what++) {
      c.due("count(" + what + ")", x.count(what), 0);
    }
    c.due("fault()", x.fault(), 0);
    c.due("status()", x.status(), 0);
    c.due("trace(0)", x.trace(0), Checks.NONE);
    withoutPath(c, x);
    for (int row = 0; row < 8; row++) {
      c.due("set in row " + row, x.set(row, 0, 0), Checks.NULL);
    }
    constants(c);
    objectsApart(c);
    c.end();
  }

  /** Promise 1, "No PATH."; promises 9, 16, 19, "STATE: no PATH (ahead of BAD)". */
  private static void withoutPath(Checks c, ErrandLanes x) {
    c.due("halves(1)", x.halves(1), Checks.STATE);
    c.due("halves(0): STATE is ahead of BAD", x.halves(0), Checks.STATE);
    c.due("undo()", x.undo(), Checks.STATE);
    c.due("soon(0)", x.soon(0), Checks.STATE);
    c.due("soon(2): STATE is ahead of BAD", x.soon(2), Checks.STATE);
    c.due("began(0, 0, 0)", x.began(0, 0, 0), Checks.STATE);
    c.due("began(8, 0, 0): STATE is ahead of BAD", x.began(8, 0, 0), Checks.STATE);
    c.due("image(0)", x.image(0), Checks.STATE);
    c.due("image(2): BAD is ahead of STATE", x.image(2), Checks.BAD);
    c.due("restore(1)", x.restore(1), Checks.STATE);
    c.due("restore(-1): BAD is ahead of STATE", x.restore(-1), Checks.BAD);
    c.due("person(0, 0)", x.person(0, 0), Checks.BAD);
    c.due("errand(0, 0)", x.errand(0, 0), Checks.BAD);
    c.due("ahead(0, 0, 0)", x.ahead(0, 0, 0), Checks.BAD);
    c.due("done(0, 0)", x.done(0, 0), Checks.BAD);
    c.due("secret(0, 0)", x.secret(0, 0), Checks.BAD);
    c.due("clean(0, 0, 0, 0)", x.clean(0, 0, 0, 0), Checks.BAD);
    c.due("hands(0, 0, 0)", x.hands(0, 0, 0), Checks.BAD);
    c.due("kind(0)", x.kind(0), Checks.BAD);
    c.due("as(0, 0)", x.as(0, 0), Checks.BAD);
    c.due("ask(0, 0)", x.ask(0, 0), Checks.BAD);
  }

  /** The public face, "NONE = -1000000, BAD = -1000001, STATE = -1000002, FULL = -1000003". */
  private static void constants(Checks c) {
    c.due("NONE", ErrandLanes.NONE, -1000000);
    c.due("BAD", ErrandLanes.BAD, -1000001);
    c.due("STATE", ErrandLanes.STATE, -1000002);
    c.due("FULL", ErrandLanes.FULL, -1000003);
  }

  private static void objectsApart(Checks c) {
    ErrandLanes one = Checks.on("path 3 0;person fat 2 1 6;");
    ErrandLanes other = new ErrandLanes();
    one.row(3, 0, 4);
    c.due("another object's people", other.count(1), 0);
    c.due("another object's rows", other.count(0), 0);
    c.due("another object's halves", other.halves(1), Checks.STATE);
  }
}
