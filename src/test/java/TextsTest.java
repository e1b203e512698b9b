/** Promises 6 to 8: the tape, what is read of it, and faults. */
public final class TextsTest {
  private static final Checks C = new Checks("TextsTest");
  private static final String HEAD = "path 9 0;";

  public static void main(String[] args) {
    feeds();
    tapeFull();
    texts();
    tokens();
    lanes();
    people();
    ends();
    replaced();
    shorterBehindLonger();
    latest();
    C.end();
  }

  private static void fits(String text, int people) {
    ErrandLanes x = new ErrandLanes();
    C.due("'" + text + "'", Checks.read(x, text), people);
    C.due("fault of '" + text + "'", x.fault(), 0);
    C.due("people of '" + text + "'", x.count(1), people);
    C.due("tape behind '" + text + "'", x.count(5), 0);
  }

  private static void faulty(String text, int place, int fault) {
    ErrandLanes x = new ErrandLanes();
    C.due("'" + text + "'", Checks.read(x, text), -1000100 - place);
    C.due("fault of '" + text + "'", x.fault(), fault);
    C.due("no path by '" + text + "'", x.halves(1), Checks.STATE);
    C.due("tape behind '" + text + "'", x.count(5), 0);
  }

  /** Promise 6, "The lowest n bytes of w (1 to 8), the highest of them first", "BAD: n". */
  private static void feeds() {
    ErrandLanes x = new ErrandLanes();
    C.due("feed(.., 0)", x.feed(0, 0), Checks.BAD);
    C.due("feed(.., -1)", x.feed(0, -1), Checks.BAD);
    C.due("feed(.., 9)", x.feed(0, 9), Checks.BAD);
    C.due("none came", x.count(5), 0);
    C.due("'..pa': lowest bytes", x.feed(0x7878787878787061L, 2), 2);
    C.due("'th 2 0;'", x.feed(0x3C74682032203000L >>> 8, 6), 8);
    C.due("';'", x.feed(-256L + ';', 1), 9);
    C.due("bytes", x.count(5), 9);
    C.due("path()", x.path(), 0);
    C.due("empty then", x.count(5), 0);
    C.due("read at a higher byte's sign", x.feed(-1L, 8), 8);
    C.due("bytes of all ones are no tokens", x.path(), -1000100);
  }

  /** Promise 6, "FULL: none comes."; terms 1, "THE TAPE has at most 400 bytes". */
  private static void tapeFull() {
    ErrandLanes x = new ErrandLanes();
    C.due("396 blanks", Checks.feed(x, " ".repeat(396)), 396);
    C.due("5 more", x.feed(0x2020202020L, 5), Checks.FULL);
    C.due("none of them came", x.count(5), 396);
    C.due("4 more", x.feed(0x20202020L, 4), 400);
    C.due("1 more", x.feed(0x20L, 1), Checks.FULL);
    C.due("BAD is ahead of FULL", x.feed(0x20L, 9), Checks.BAD);
    C.due("the end of a full tape", x.path(), -1000500);
    C.due("fault", x.fault(), 1);
    String text = " ".repeat(391) + "path 2 0;";
    C.due("a path at the very end", Checks.read(x, text), 0);
  }

  /** Terms 1, "path: path { person }", "NUMBERS (figures, 3 at most)", "(none is needed where one ends without)". */
  private static void texts() {
    fits("path 2 0;", 0);
    fits("path 30 2;", 0);
    fits("path 2 1;person fat 0 0 0;person boy 2 1 2;person monk 4 0 4;", 3);
    fits("path 9 1;person widow 18 0 18;person cow 0 1 18;", 2);
    fits("path 9 0;person fat 0 0 0;person fat 2 0 0;person fat 4 0 0;person fat 6 0 0;"
        + "person fat 8 0 0;person fat 10 0 0;", 6);
    fits("\n path\n\n2 0 ;  \nperson\nfat 0\n0 0 ;\n \n", 1);
    fits("path2 0;person fat0 0 0;", 1);
    fits("path 2 0;person fat 0 0 0;person fat002 000 004;", 2);
    fits("path 02 00;", 0);
    fits("path 002 000;", 0);
  }

  /** Terms 1, "1 it cannot stand there, or is none (a run of four figures or more, at its first". */
  private static void tokens() {
    faulty("Path 2 0;", 0, 1);
    faulty("paths 2 0;", 0, 1);
    faulty("pat 2 0;", 0, 1);
    faulty("pathz 2 0;", 0, 1);
    faulty("patha 2 0;", 0, 1);
    faulty("math 2 0;", 0, 1);
    faulty("pathX 2 0;", 4, 1);
    faulty("path`2 0;", 4, 1);
    faulty("path{2 0;", 4, 1);
    faulty("path 2:0;", 6, 1);
    faulty("path 2/0;", 6, 1);
    faulty("path\t2 0;", 4, 1);
    faulty("path\r\n2 0;", 4, 1);
    faulty("path 2,0;", 6, 1);
    faulty("path -2 0;", 5, 1);
    faulty("path 0002 0;", 5, 1);
    faulty("path 2 0000;", 7, 1);
    faulty("path 99999999999999999999 0;", 5, 1);
    faulty("2 path 0;", 0, 1);
    faulty("; path 2 0;", 0, 1);
    faulty(" 1234", 1, 1);
    faulty("path 2 0;\u00e9", 9, 1);
    faulty("path 2 0;\u0000", 9, 1);
    faulty("path 2 0; path 2 0;", 10, 1);
    faulty("path 2 0;;", 9, 1);
    faulty("path 2 0; 5", 10, 1);
  }

  /** Terms 1, "(2 to 30 yards", "0 to 2)", "2 a NUMBER that is not as told". */
  private static void lanes() {
    faulty("path 1 0;", 5, 2);
    faulty("path 0 0;", 5, 2);
    faulty("path 31 0;", 5, 2);
    faulty("path 999 0;", 5, 2);
    faulty("path 1 9;", 5, 2);
    faulty("path 2 3;", 7, 2);
    faulty("path 2 999;", 7, 2);
    faulty("path two 0;", 5, 1);
    faulty("path ; 0;", 5, 1);
    faulty("path 2 ;", 7, 1);
    faulty("path 2 0 0;", 9, 1);
    faulty("path 2 0 person fat 0 0 0;", 9, 1);
  }

  /** Terms 1, "an even SPOT, each once; 0 down, 1 up; an even SPOT", "3 a person more than there is room for (its word)." */
  private static void people() {
    faulty(HEAD + "persons fat 0 0 0;", 9, 1);
    faulty(HEAD + "fat 0 0 0;", 9, 1);
    faulty(HEAD + "person person 0 0 0;", 16, 1);
    faulty(HEAD + "person fats 0 0 0;", 16, 1);
    faulty(HEAD + "person fa 0 0 0;", 16, 1);
    faulty(HEAD + "person toy 0 0 0;", 16, 1);
    faulty(HEAD + "person 0 0 0;", 16, 1);
    faulty(HEAD + "person fat 1 0 0;", 20, 2);
    faulty(HEAD + "person fat 19 0 0;", 20, 2);
    faulty(HEAD + "person fat 20 0 0;", 20, 2);
    faulty(HEAD + "person fat 0000 0 0;", 20, 1);
    faulty(HEAD + "person fat ; 0 0;", 20, 1);
    faulty(HEAD + "person fat 0 2 0;", 22, 2);
    faulty(HEAD + "person fat 0 up 0;", 22, 1);
    faulty(HEAD + "person fat 0 0 1;", 24, 2);
    faulty(HEAD + "person fat 0 0 20;", 24, 2);
    faulty(HEAD + "person fat 0 0 ;", 24, 1);
    faulty(HEAD + "person fat 0 0 0 0;", 26, 1);
    faulty(HEAD + "person fat 4 0 0;person cow 4 9 9;", 37, 2);
    faulty(HEAD + "person fat 5 2 1;", 20, 2);
    String six = "path 2 0;".replace('2', '9')
        + "person fat 0 0 0;person fat 2 0 0;person fat 4 0 0;person fat 6 0 0;"
        + "person fat 8 0 0;person fat 10 0 0;";
    faulty(six + "person", six.length(), 3);
    faulty(six + " person fat 12 0 0;", six.length() + 1, 3);
    faulty(six + "persona", six.length(), 1);
    faulty(six + ";", six.length(), 1);
    faulty("path 2 0;person fat 0 0 0;person fat 2 0 0;person fat 4 0 0;person fat 6 0 0;", 71, 2);
  }

  /** Terms 1, "the end: how many bytes there are". */
  private static void ends() {
    String text = "path 9 0;person fat 0 0 0";
    faulty("", 0, 1);
    faulty("  ", 2, 1);
    faulty("path", 4, 1);
    faulty("path ", 5, 1);
    faulty("path 9", 6, 1);
    faulty("path 9 0", 8, 1);
    faulty("path 9 0 \n ", 11, 1);
    faulty("path 9 0;person", 15, 1);
    faulty("path 9 0;person fat", 19, 1);
    faulty("path 9 0;person fat 0", 21, 1);
    faulty("path 9 0;person fat 0 0", 23, 1);
    faulty(text, text.length(), 1);
    faulty(text + " ", text.length() + 1, 1);
  }

  /** A path that is read stands in place of the one before; one that is not changes nothing. */
  private static void replaced() {
    ErrandLanes x = Checks.on("path 3 1;person fat 2 1 6;person cow 4 0 4;");
    x.row(0, 0, 7);
    x.image(0);
    x.ask(0, 0);
    x.halves(3);
    C.due("a faulty text", Checks.read(x, "path 2 0;person fat 0 0 0;person boy 2 0 1;"), -1000141);
    C.due("people stay", x.count(1), 2);
    C.due("halves stay", x.count(2), 3);
    C.due("undos stay", x.count(3), 3);
    C.due("spot stays", x.person(0, 0), 5);
    C.due("goal stays", x.errand(0, 0), 6);
    C.due("a text", Checks.read(x, "path 4 0;person boy 6 0 6;person fat 0 1 2;person monk 2 1 2;"), 3);
    C.due("halves", x.count(2), 0);
    C.due("undos", x.count(3), 0);
    C.due("undo()", x.undo(), Checks.STATE);
    C.due("done at once", x.count(4), 2);
    C.due("errand 0 is done", x.errand(0, 1), 1);
    C.due("errand 1 is not", x.errand(1, 1), 0);
    C.due("errand 2 is done", x.errand(2, 1), 1);
    C.due("rows stay", x.drop(0), 7);
    C.due("the trace stays", x.trace(0), 11);
    C.due("images stay", x.restore(0), 1);
    C.due("the image's people", x.count(1), 2);
    C.due("fewer people", Checks.read(x, "path 4 0;"), 0);
    C.due("no person 0", x.person(0, 0), Checks.BAD);
    C.due("none done", x.count(4), 0);
    C.due("halves go by without people", x.halves(60), 0);
    C.due("they are counted", x.count(2), 60);
  }

  /** What stood on the tape ahead of a reading is gone. */
  private static void shorterBehindLonger() {
    ErrandLanes x = new ErrandLanes();
    Checks.read(x, "paths 22222222;;;;;;;;");
    C.due("'path'", Checks.read(x, "path"), -1000104);
    Checks.read(x, "path 2 0;;;;;;;;");
    C.due("'path 2 0'", Checks.read(x, "path 2 0"), -1000108);
    Checks.read(x, "path 20000000;");
    C.due("'path 2'", Checks.read(x, "path 2"), -1000106);
    C.due("fault", x.fault(), 1);
    Checks.read(x, "path 2 9;                ");
    C.due("'path 2 0;'", Checks.read(x, "path 2 0;"), 0);
  }

  /** Promise 8, "The number of the latest FAULT; 0 before one." */
  private static void latest() {
    ErrandLanes x = new ErrandLanes();
    Checks.read(x, "path 1 0;");
    C.due("fault 2", x.fault(), 2);
    Checks.read(x, "path 2 0;");
    C.due("it is told on behind a path", x.fault(), 2);
    x.path();
    C.due("fault 1", x.fault(), 1);
    C.due("an empty tape leaves the path", x.halves(1), 0);
  }
}
