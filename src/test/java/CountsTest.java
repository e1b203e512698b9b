/** Promise 26, each count as calls change it. */
public final class CountsTest {
  private static final Checks C = new Checks("CountsTest");

  /** Promise 26, each number of "How many", and "BAD." */
  public static void main(String[] args) {
    ErrandLanes x = new ErrandLanes();
    counts(x, 0, 0, 0, 0, 0, 0);
    x.row(0, 0, 1);
    x.row(0, 1, 1);
    x.row(5, 1, 1);
    counts(x, 2, 0, 0, 0, 0, 0);
    Checks.feed(x, "path 3 1;person fat 0 1 6;person cow 2 0 2;");
    counts(x, 2, 0, 0, 0, 0, 43);
    x.path();
    counts(x, 2, 2, 0, 0, 1, 0);
    x.halves(30);
    counts(x, 2, 2, 30, 24, 2, 0);
    x.undo();
    counts(x, 2, 2, 29, 23, 2, 0);
    x.drop(5);
    counts(x, 1, 2, 29, 23, 2, 0);
    C.due("count(-1)", x.count(-1), Checks.BAD);
    C.due("count(6)", x.count(6), Checks.BAD);
    C.due("count(MIN)", x.count(Integer.MIN_VALUE), Checks.BAD);
    C.end();
  }

  private static void counts(ErrandLanes x, int... due) {
    for (int what = 0; what < due.length; what++) {
      C.due("count(" + what + ")", x.count(what), due[what]);
    }
  }
}
