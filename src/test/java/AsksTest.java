/** Promises 22 to 25, and 27 of as(). */
public final class AsksTest {
  private static final Checks C = new Checks("AsksTest");
  private static final String ALL = "path 9 0;person fat 6 0 0;person boy 8 0 0;person widow 10 1 0;"
      + "person monk 12 1 0;person cow 14 1 0;";
  /** By person: the kinds that he is. */
  private static final int[][] IS = {{0, 1}, {0, 1, 2}, {0, 1, 3}, {0, 4}, {0, 4, 5}};

  public static void main(String[] args) {
    kinds();
    taken();
    sizes();
    marks();
    asTheyAreNow();
    traces();
    refusals();
    C.end();
  }

  /** Promise 22, "The KIND of one, as told (1 to 5). BAD." */
  private static void kinds() {
    ErrandLanes x = Checks.on(ALL);
    int[] kinds = {1, 2, 3, 4, 5};
    for (int p = 0; p < 5; p++) {
      C.due("kind(" + p + ")", x.kind(p), kinds[p]);
    }
    C.due("kind(-1)", x.kind(-1), Checks.BAD);
    C.due("kind(5)", x.kind(5), Checks.BAD);
  }

  /** Promise 23, "BAD; KIND: he is no such one." */
  private static void taken() {
    ErrandLanes x = Checks.on(ALL);
    for (int p = 0; p < 5; p++) {
      for (int kind = 0; kind < 6; kind++) {
        boolean is = false;
        for (int k : IS[p]) {
          is |= k == kind;
        }
        C.due("as(" + p + ", " + kind + ")", x.as(p, kind), is ? p : Checks.KIND);
        C.due("status", x.status(), is ? 0 : 3);
      }
    }
    x.as(0, 5);
    C.due("as(0, 6)", x.as(0, 6), Checks.BAD);
    C.due("as(0, -1)", x.as(0, -1), Checks.BAD);
    C.due("as(5, 0)", x.as(5, 0), Checks.BAD);
    C.due("as(-1, 0)", x.as(-1, 0), Checks.BAD);
    C.due("BAD leaves the status", x.status(), 3);
    x.row(0, 0, 1);
    C.due("status of a row", x.status(), 0);
  }

  private static void asked(ErrandLanes x, int person, int what, int answer, int... trace) {
    String call = "ask(" + person + ", " + what + ")";
    C.due(call, x.ask(person, what), answer);
    for (int i = 0; i < 16; i++) {
      C.due(call + ", trace(" + i + ")", x.trace(i), i < trace.length ? trace[i] : Checks.NONE);
    }
  }

  /** Terms 4, "0 SIZE"; "14 of COWS: twice what 13 gives (asked once)." */
  private static void sizes() {
    ErrandLanes x = Checks.on(ALL);
    asked(x, 0, 0, 6, 11, 10, 21, 20);
    asked(x, 1, 0, -(8 + 4), 12, 11, 10, 24, 21, 20);
    asked(x, 2, 0, 10 + 4 - 1000, 11, 10, 22, 21, 20);
    asked(x, 3, 0, 12 - 100, 13, 10);
    asked(x, 4, 0, 2 * (14 - 100), 14, 13, 10);
  }

  /** Terms 4, "1 MARK"; "24 of BOYS: twice what 21 gives (asked once)." */
  private static void marks() {
    ErrandLanes x = Checks.on(ALL);
    asked(x, 0, 1, 0, 21, 20);
    asked(x, 1, 1, 4, 24, 21, 20);
    asked(x, 2, 1, 4 - 1000, 22, 21, 20);
    asked(x, 3, 1, 3 - (12 - 100), 23, 20, 13, 10);
    asked(x, 4, 1, 4 - 2 * (14 - 100), 23, 20, 14, 13, 10);
  }

  /** Terms 4, "SIZE, MARK within others are asked of the same one anew." */
  private static void asTheyAreNow() {
    ErrandLanes x = Checks.on("path 4 0;person monk 2 0 0;person fat 4 1 8;person boy 6 0 0;");
    x.halves(1);
    C.due("1 has 2", x.person(1, 2), 2);
    asked(x, 1, 0, 5 + 1 + 2, 11, 10, 21, 20);
    asked(x, 2, 0, -(5 + 2 * (2 + 1)), 12, 11, 10, 24, 21, 20);
    asked(x, 0, 1, 0 - (1 - 100), 23, 20, 13, 10);
    x.undo();
    asked(x, 1, 1, 2, 21, 20);
  }

  /** Promise 24, "(where that is refused it stays)"; promise 25, "NONE." */
  private static void traces() {
    ErrandLanes x = Checks.on(ALL);
    x.ask(4, 0);
    C.due("trace(-1)", x.trace(-1), Checks.NONE);
    C.due("trace(16)", x.trace(16), Checks.NONE);
    C.due("trace(MAX)", x.trace(Integer.MAX_VALUE), Checks.NONE);
    x.ask(5, 0);
    x.ask(0, 2);
    C.due("where an ask is refused it stays", x.trace(0), 14);
    x.halves(3);
    x.row(0, 0, 0);
    C.due("it stays", x.trace(2), 10);
  }

  /** Promise 24, "An ASK (0, 1) of one. BAD." */
  private static void refusals() {
    ErrandLanes x = Checks.on(ALL);
    C.due("ask(-1, 0)", x.ask(-1, 0), Checks.BAD);
    C.due("ask(5, 0)", x.ask(5, 0), Checks.BAD);
    C.due("ask(0, -1)", x.ask(0, -1), Checks.BAD);
    C.due("ask(0, 2)", x.ask(0, 2), Checks.BAD);
    C.due("status is not of asks", x.status(), 0);
  }
}
