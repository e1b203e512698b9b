/** Boundary cases of the faults of texts, in terms 1. */
final class FaultSentences {
  private static final String SIX = TextSentences.SIX;

  private final Sentences s;

  FaultSentences(Sentences s) {
    this.s = s;
  }

  void all() {
    first();
    least();
    misfits();
    longRuns();
    ends();
    numbers();
    crowds();
  }

  private void faulty(String text, int place, int fault) {
    ErrandLanes x = new ErrandLanes();
    s.due("'" + text + "'", Checks.read(x, text), -1000100 - place);
    s.due("fault of '" + text + "'", x.fault(), fault);
  }

  private void first() {
    s.terms(1, "the first TOKEN that has one (its first byte)");
    faulty("path 31 9;", 5, 2);
    faulty("path 2 9", 7, 2);
    faulty("path 2 0;person fat 1 9 9;person", 20, 2);
    faulty("path 2 0;person fat 0 9 9;person", 22, 2);
    faulty("path 2 0;person fat 0 0 9;person", 24, 2);
    faulty("path 2 1000;person fat 1 9 9;", 7, 1);
    faulty("  paths 2 0;", 2, 1);
    faulty("path 2  999;", 8, 2);
    faulty("path 2 0; \n persons fat 0 0 0;", 12, 1);
  }

  private void least() {
    s.terms(1, "of one TOKEN the least:");
    faulty("path 2 0 999;", 9, 1);
    faulty("path 1000 0;", 5, 1);
    faulty("path 2 0;person 1 0 0 0;", 16, 1);
    faulty("path 2 0;person fat 9999 0 0;", 20, 1);
    faulty("path 2 0;person fat 0 0 1111;", 24, 1);
    faulty(SIX + "persons", SIX.length(), 1);
    faulty(SIX + "fat", SIX.length(), 1);
    faulty(SIX + "1", SIX.length(), 1);
  }

  private void misfits() {
    s.terms(1, "1 it cannot stand there, or is none");
    faulty("2 2 0;", 0, 1);
    faulty("path path 0;", 5, 1);
    faulty("path ; 0;", 5, 1);
    faulty("path 2 ;", 7, 1);
    faulty("path 2 x;", 7, 1);
    faulty("path 2 0 person fat 0 0 0;", 9, 1);
    faulty("path 2 0;fat 0 0 0;", 9, 1);
    faulty("path 2 0;person ;", 16, 1);
    faulty("path 2 0;person fat boy 0 0;", 20, 1);
    faulty("path 2 0;person fat ; 0 0;", 20, 1);
    faulty("path 2 0;person fat 0 up 0;", 22, 1);
    faulty("path 2 0;person fat 0 ; 0;", 22, 1);
    faulty("path 2 0;person fat 0 0 ;", 24, 1);
    faulty("path 2 0;person fat 0 0 goal;", 24, 1);
    faulty("path 2 0;person fat 0 0 0 person boy 2 0 0;", 26, 1);
    faulty("path 2 0;person fat 0 0 0;7", 26, 1);
    faulty("path 2 0;person fat 0 0 0;?", 26, 1);
    faulty("path 2 0;" + (char) 255, 9, 1);
  }

  private void longRuns() {
    s.terms(1, "(a run of four figures or more, at its first;");
    faulty("path 0002 0;", 5, 1);
    faulty("path 00002 0;", 5, 1);
    faulty("path 4294967298 0;", 5, 1);
    faulty("path 18446744073709551618 0;", 5, 1);
    faulty("path 2 0000;", 7, 1);
    faulty("path 2 0;person fat 0000 0 0;", 20, 1);
    faulty("path 2 0;person fat 0 0001 0;", 22, 1);
    faulty("path 2 0;person fat 0 0 0002;", 24, 1);
    faulty("1234", 0, 1);
    faulty(" 1234", 1, 1);
  }

  /** Each text that ends where more must come, with and without blanks behind it. */
  private void ends() {
    s.terms(1, "the end: how many bytes there are);");
    String[] tokens = {"", "path", " 9", " 0", ";", "person", " fat", " 4", " 1", " 8", ";"};
    StringBuilder text = new StringBuilder();
    for (int i = 0; i < tokens.length; i++) {
      text.append(tokens[i]);
      if (tokens[i].equals(";")) {
        ErrandLanes x = new ErrandLanes();
        s.due("'" + text + " ', which may end", Checks.read(x, text + " "), i == 4 ? 0 : 1);
        continue;
      }
      faulty(text.toString(), text.length(), 1);
      faulty(text + " ", text.length() + 1, 1);
      faulty(text + "\n \n", text.length() + 3, 1);
    }
    faulty(" ".repeat(392) + "path 2 0", 400, 1);
    faulty(" ".repeat(396) + "path", 400, 1);
    faulty(" ".repeat(395) + "paths", 395, 1);
    faulty(" ".repeat(392) + "path 200", 397, 2);
    faulty(" ".repeat(391) + "path 2000", 396, 1);
    faulty(SIX.substring(0, SIX.length() - 1), SIX.length() - 1, 1);
  }

  private void numbers() {
    s.terms(1, "2 a NUMBER that is not as told;");
    faulty("path 1 0;", 5, 2);
    faulty("path 31 0;", 5, 2);
    faulty("path 2 3;", 7, 2);
    faulty("path 2 0;person fat 3 0 0;", 20, 2);
    faulty("path 2 0;person fat 6 0 0;", 20, 2);
    faulty("path 2 0;person fat 0 2 0;", 22, 2);
    faulty("path 2 0;person fat 0 0 3;", 24, 2);
    faulty("path 2 0;person fat 0 0 6;", 24, 2);
    faulty("path 2 0;person fat 4 0 0;person boy 4 0 0;", 37, 2);
    faulty("path 2 999", 7, 2);
    faulty("path 999", 5, 2);
  }

  private void crowds() {
    s.terms(1, "3 a person more than there is room for (its word).");
    int end = SIX.length();
    faulty(SIX + "person fat 12 0 2;", end, 3);
    faulty(SIX + " \nperson fat 12 0 2;", end + 2, 3);
    faulty(SIX + "person", end, 3);
    faulty(SIX + "person;", end, 3);
    faulty(SIX + "person fat 3 9 9;", end, 3);
    faulty(SIX + "person fat 12 0 2;person fat 14 0 2;", end, 3);
    ErrandLanes x = new ErrandLanes();
    s.due("six", Checks.read(x, SIX), 6);
    s.due("six and blanks", Checks.read(x, SIX + " \n"), 6);
  }
}
