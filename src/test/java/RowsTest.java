/** Promises 2 to 5, and 27 of these calls. */
public final class RowsTest {
  private static final Checks C = new Checks("RowsTest");
  private static final int MIN = Integer.MIN_VALUE;
  private static final int MAX = Integer.MAX_VALUE;

  public static void main(String[] args) {
    rows();
    sets();
    copies();
    copiesRefused();
    drops();
    statuses();
    C.end();
  }

  /** Promise 2, "in place of what is there", "BAD: ROW, LANE, n above 40; SIZE."; terms 1, "ITEMS, 0 at first". */
  private static void rows() {
    ErrandLanes x = new ErrandLanes();
    C.due("row of 40", x.row(0, 0, 40), 40);
    C.due("row of none", x.row(7, 2, 0), 0);
    C.due("rows", x.count(0), 2);
    C.due("row -1", x.row(-1, 0, 1), Checks.BAD);
    C.due("row 8", x.row(8, 0, 1), Checks.BAD);
    C.due("lane -1", x.row(0, -1, 1), Checks.BAD);
    C.due("lane 3", x.row(0, 3, 1), Checks.BAD);
    C.due("row of 41", x.row(0, 0, 41), Checks.BAD);
    C.due("row of MAX", x.row(0, 0, MAX), Checks.BAD);
    C.due("row of -1", x.row(0, 0, -1), Checks.SIZE);
    C.due("row of MIN", x.row(0, 2, MIN), Checks.SIZE);
    C.due("lane 3 is ahead of size", x.row(0, 3, -1), Checks.BAD);
    C.due("refused rows change nothing", x.drop(0), 40);
    x.row(1, 2, 3);
    x.set(1, 0, 66);
    x.set(1, 2, 77);
    C.due("a row in place of another", x.row(1, 2, 5), 5);
    x.row(2, 2, 1);
    C.due("its items are 0", x.copy(1, 2, 2, 0, 1), 1);
    C.due("item", itemOf(x, 1, 2), 0);
    C.due("its first item", itemOf(x, 1, 0), 0);
    x.set(1, 4, 9);
    x.row(1, 2, 2);
    x.row(1, 2, 5);
    C.due("items beyond a shorter row come back as 0", itemOf(x, 1, 4), 0);
    x.row(1, 0, 5);
    C.due("lane of the new row", x.set(1, 0, 300), 44);
  }

  /** Only began() shows an item without changing it, so an item is read as an errand. */
  private static int itemOf(ErrandLanes x, int row, int i) {
    Checks.read(x, "path 2 0;person cow 0 0 0;person cow 2 0 0;person cow 4 0 0;");
    x.row(6, 2, 3);
    x.set(6, 1, 1);
    x.set(6, 2, 2);
    if (x.copy(row, i, 6, 0, 1) != 1) {
      return Checks.BAD;
    }
    return x.began(6, 0, 0) == 1 ? 0 : Checks.BAD;
  }

  /** Promise 3, "its lowest bits, as many as the LANE has (read with their sign)", "BAD: ROW; NULL; PLACE." */
  private static void sets() {
    ErrandLanes x = new ErrandLanes();
    x.row(0, 0, 3);
    x.row(1, 1, 3);
    x.row(2, 2, 3);
    C.due("byte 127", x.set(0, 0, 127), 127);
    C.due("byte 128", x.set(0, 1, 128), -128);
    C.due("byte 255", x.set(0, 2, 255), -1);
    C.due("byte 256", x.set(0, 0, 256), 0);
    C.due("byte -129", x.set(0, 0, -129), 127);
    C.due("byte MIN", x.set(0, 0, MIN), 0);
    C.due("byte MAX", x.set(0, 0, MAX), -1);
    C.due("short 32767", x.set(1, 0, 32767), 32767);
    C.due("short 32768", x.set(1, 1, 32768), -32768);
    C.due("short 65536", x.set(1, 2, 65537), 1);
    C.due("short MAX", x.set(1, 0, MAX), -1);
    C.due("int MAX", x.set(2, 0, MAX), MAX);
    C.due("int MIN", x.set(2, 2, MIN), MIN);
    C.due("item -1", x.set(0, -1, 0), Checks.PLACE);
    C.due("item 3", x.set(0, 3, 0), Checks.PLACE);
    C.due("item MAX", x.set(0, MAX, 0), Checks.PLACE);
    C.due("a missing row", x.set(3, -1, 0), Checks.NULL);
    C.due("row -1", x.set(-1, 0, 0), Checks.BAD);
    C.due("row 8", x.set(8, 0, 0), Checks.BAD);
    x.row(4, 0, 0);
    C.due("no item at all", x.set(4, 0, 0), Checks.PLACE);
  }

  /** Promise 4, "as they were ahead: n." */
  private static void copies() {
    ErrandLanes x = Checks.on("path 9 1;person cow 0 0 0;person cow 2 0 0;person cow 4 0 0;person cow 6 0 0;");
    Checks.fill(x, 0, 2, 0, 1, 2, 3, 9);
    C.due("four as they are", x.began(0, 0, 0), 1);
    C.due("onto itself, one on", x.copy(0, 0, 0, 1, 4), 4);
    C.due("0 0 1 2 3", x.began(0, 0, 0), 0);
    C.due("one back, over itself", x.copy(0, 1, 0, 0, 4), 4);
    C.due("0 1 2 3 3", x.began(0, 0, 0), 1);
    C.due("none, at the ends", x.copy(0, 5, 0, 5, 0), 0);
    C.due("all onto itself", x.copy(0, 0, 0, 0, 5), 5);
    C.due("still", x.began(0, 0, 0), 1);
    x.row(1, 2, 4);
    C.due("to another", x.copy(0, 0, 1, 0, 4), 4);
    C.due("another has them", x.began(1, 0, 0), 1);
    x.set(0, 0, 3);
    C.due("another keeps them", x.began(1, 0, 0), 1);
    C.due("the last of a to the first of b", x.copy(0, 4, 1, 0, 1), 1);
    C.due("another has it", x.began(1, 0, 0), 0);
  }

  /** Promise 4, "BAD: ROWS; NULL; STORE; PLACE (i, j, n below 0, or beyond an end)." */
  private static void copiesRefused() {
    ErrandLanes x = new ErrandLanes();
    x.row(0, 0, 5);
    x.row(1, 0, 3);
    x.row(2, 1, 5);
    C.due("a -1", x.copy(-1, 0, 0, 0, 0), Checks.BAD);
    C.due("a 8", x.copy(8, 0, 0, 0, 0), Checks.BAD);
    C.due("b -1", x.copy(0, 0, -1, 0, 0), Checks.BAD);
    C.due("b 8", x.copy(0, 0, 8, 0, 0), Checks.BAD);
    C.due("a missing, b 8", x.copy(5, 0, 8, 0, 0), Checks.BAD);
    C.due("a missing", x.copy(5, 0, 0, 0, -1), Checks.NULL);
    C.due("b missing", x.copy(0, 0, 5, 0, -1), Checks.NULL);
    C.due("two lanes, ahead of place", x.copy(0, 0, 2, 0, -1), Checks.STORE);
    C.due("two lanes, none", x.copy(2, 0, 0, 0, 0), Checks.STORE);
    C.due("n -1", x.copy(0, 0, 1, 0, -1), Checks.PLACE);
    C.due("i -1", x.copy(0, -1, 1, 0, 1), Checks.PLACE);
    C.due("j -1", x.copy(0, 0, 1, -1, 1), Checks.PLACE);
    C.due("beyond a", x.copy(0, 3, 1, 0, 3), Checks.PLACE);
    C.due("beyond b", x.copy(0, 0, 1, 1, 3), Checks.PLACE);
    C.due("i beyond the end, none", x.copy(0, 6, 1, 0, 0), Checks.PLACE);
    C.due("j beyond the end, none", x.copy(0, 0, 1, 4, 0), Checks.PLACE);
    C.due("i MAX", x.copy(0, MAX, 1, 0, 1), Checks.PLACE);
    C.due("j MAX", x.copy(0, 0, 1, MAX, MAX), Checks.PLACE);
    C.due("n MAX", x.copy(0, 1, 1, 1, MAX), Checks.PLACE);
    C.due("n MIN", x.copy(0, 1, 1, 1, MIN), Checks.PLACE);
    C.due("to the ends", x.copy(0, 2, 1, 0, 3), 3);
  }

  /** Promise 5, "how many ITEMS it had. BAD; NULL." */
  private static void drops() {
    ErrandLanes x = new ErrandLanes();
    x.row(0, 1, 12);
    x.row(7, 1, 0);
    C.due("drop(0)", x.drop(0), 12);
    C.due("rows", x.count(0), 1);
    C.due("drop(0) again", x.drop(0), Checks.NULL);
    C.due("drop(7)", x.drop(7), 0);
    C.due("rows", x.count(0), 0);
    C.due("drop(-1)", x.drop(-1), Checks.BAD);
    C.due("drop(8)", x.drop(8), Checks.BAD);
    C.due("set", x.set(0, 0, 1), Checks.NULL);
  }

  /** Promise 27, "that was not BAD, STATE, FULL: the number of its FINDING; 0: it had none, or there was none." */
  private static void statuses() {
    ErrandLanes x = new ErrandLanes();
    x.drop(2);
    C.due("status of NULL", x.status(), 1);
    x.row(8, 0, 0);
    C.due("BAD leaves it", x.status(), 1);
    x.began(0, 0, 0);
    C.due("STATE leaves it", x.status(), 1);
    x.row(0, 0, -5);
    C.due("status of SIZE", x.status(), 4);
    x.row(0, 0, 5);
    C.due("status of a row", x.status(), 0);
    x.set(0, 5, 0);
    C.due("status of PLACE", x.status(), 2);
    x.feed(0, 9);
    x.path();
    x.count(0);
    C.due("calls without a row leave it", x.status(), 2);
    x.set(0, 4, 0);
    C.due("status of a set", x.status(), 0);
    x.row(1, 1, 5);
    x.copy(0, 0, 1, 0, 1);
    C.due("status of STORE", x.status(), 5);
    x.copy(0, 0, 0, 1, 1);
    C.due("status of a copy", x.status(), 0);
    x.copy(0, 0, 3, 1, 1);
    C.due("status of NULL", x.status(), 1);
    x.drop(0);
    C.due("status of a drop", x.status(), 0);
  }
}
