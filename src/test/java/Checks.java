/** Counts answers that are as due, and prints those that are not. */
final class Checks {
  static final int NONE = ErrandLanes.NONE;
  static final int BAD = ErrandLanes.BAD;
  static final int STATE = ErrandLanes.STATE;
  static final int FULL = ErrandLanes.FULL;
  static final int NULL = -1000011;
  static final int PLACE = -1000012;
  static final int KIND = -1000013;
  static final int SIZE = -1000014;
  static final int STORE = -1000015;

  private final String name;
  private int right = 0;
  private int wrong = 0;

  Checks(String name) {
    this.name = name;
  }

  void due(String call, long got, long want) {
    if (got == want) {
      right++;
      return;
    }
    wrong++;
    System.out.println(name + ": " + call + " answered " + got + ", due is " + want);
  }

  /** Ends the test: with code 1 if an answer was wrong, or if none was looked at. */
  void end() {
    System.out.println(name + ": " + right + " answers as due, " + wrong + " not");
    if (wrong != 0 || right == 0) {
      System.exit(1);
    }
  }

  /** Feeds a text, as few calls as can be: what the last call answered. */
  static int feed(ErrandLanes lanes, String text) {
    int last = 0;
    for (int from = 0; from < text.length(); from += 8) {
      int to = Math.min(text.length(), from + 8);
      long w = 0;
      for (int i = from; i < to; i++) {
        w = (w << 8) | text.charAt(i);
      }
      last = lanes.feed(w, to - from);
    }
    return last;
  }

  static int read(ErrandLanes lanes, String text) {
    feed(lanes, text);
    return lanes.path();
  }

  static ErrandLanes on(String text) {
    ErrandLanes lanes = new ErrandLanes();
    read(lanes, text);
    return lanes;
  }

  static void fill(ErrandLanes lanes, int row, int lane, int... items) {
    lanes.row(row, lane, items.length);
    for (int i = 0; i < items.length; i++) {
      lanes.set(row, i, items[i]);
    }
  }
}
