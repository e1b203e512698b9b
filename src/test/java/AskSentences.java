/** Boundary cases of promises 22 to 25, of terms 4, and of the kinds in terms 3. */
final class AskSentences {
  private static final String ALL = "path 9 0;person fat 6 0 0;person boy 8 0 0;person widow 10 1 0;"
      + "person monk 12 1 0;person cow 14 1 0;";
  /** No people of a path of five. */
  private static final int[] NOBODY = {-1, 5, 6, 7, Integer.MIN_VALUE, Integer.MAX_VALUE};

  private final Sentences s;

  AskSentences(Sentences s) {
    this.s = s;
  }

  void all() {
    kinds();
    taken();
    takenRefused();
    sizes();
    marks();
    nearest();
    asked();
    traces();
  }

  private void asks(ErrandLanes x, int person, int what, int answer, int... trace) {
    String call = "ask(" + person + ", " + what + ")";
    s.due(call, x.ask(person, what), answer);
    for (int i = 0; i < 17; i++) {
      s.due(call + ", trace(" + i + ")", x.trace(i), i < trace.length ? trace[i] : Checks.NONE);
    }
  }

  private void kinds() {
    s.promise(22, "The KIND of one, as told (1 to 5). BAD.");
    ErrandLanes x = Checks.on(ALL);
    for (int p = 0; p < 5; p++) {
      s.due("kind(" + p + ")", x.kind(p), p + 1);
    }
    for (int p : NOBODY) {
      s.due("kind(" + p + ")", x.kind(p), Checks.BAD);
    }
    s.due("no path", new ErrandLanes().kind(0), Checks.BAD);
  }

  private void taken() {
    s.terms(3, "0 PERSON; 1 FAT, a PERSON; 2 BOY, a FAT one; 3 WIDOW, a FAT one; 4 MONK, a PERSON; 5 COW, a MONK.");
    ErrandLanes x = Checks.on(ALL);
    // By person, a letter for each kind: whether he is one.
    String[] is = {"yynnnn", "yyynnn", "yynynn", "ynnnyn", "ynnnyy"};
    for (int p = 0; p < 5; p++) {
      for (int kind = 0; kind < 6; kind++) {
        boolean isOne = is[p].charAt(kind) == 'y';
        s.due("as(" + p + ", " + kind + ")", x.as(p, kind), isOne ? p : Checks.KIND);
        s.due("status()", x.status(), isOne ? 0 : 3);
      }
    }
  }

  private void takenRefused() {
    s.promise(23, "One is taken as one of a KIND (0 .. 5): his number.");
    ErrandLanes x = Checks.on(ALL);
    s.due("as(0, 0)", x.as(0, 0), 0);
    s.due("as(4, 5)", x.as(4, 5), 4);
    s.due("as(4, 0)", x.as(4, 0), 4);
    s.due("he stays what he is", x.kind(4), 5);

    s.promise(23, "BAD; KIND: he is no such one.");
    s.due("as(0, 5)", x.as(0, 5), Checks.KIND);
    for (int p : NOBODY) {
      s.due("as(" + p + ", 0)", x.as(p, 0), Checks.BAD);
    }
    for (int kind : new int[] {-1, 6, 7, Integer.MIN_VALUE, Integer.MAX_VALUE}) {
      s.due("as(0, " + kind + ")", x.as(0, kind), Checks.BAD);
    }
    s.due("BAD leaves the status", x.status(), 3);
    s.due("as(0, 1)", x.as(0, 1), 0);
    s.due("status()", x.status(), 0);
  }

  private void sizes() {
    ErrandLanes x = Checks.on(ALL);
    s.terms(4, "11 of FAT ones: what 10 gives, and MARK.");
    asks(x, 0, 0, 6 + 0, 11, 10, 21, 20);
    asks(x, 2, 0, 10 + 4 - 1000, 11, 10, 22, 21, 20);
    s.terms(4, "12 of BOYS: 0 less what 11 gives.");
    asks(x, 1, 0, -(8 + 4), 12, 11, 10, 24, 21, 20);
    s.terms(4, "13 of MONKS: what 10 gives, less 100.");
    asks(x, 3, 0, 12 - 100, 13, 10);
    s.terms(4, "14 of COWS: twice what 13 gives (asked once).");
    asks(x, 4, 0, 2 * (14 - 100), 14, 13, 10);
  }

  private void marks() {
    ErrandLanes x = Checks.on("path 9 0;person cow 14 1 0;person fat 6 1 0;person widow 8 0 0;"
        + "person boy 18 0 0;person monk 0 1 0;");
    x.halves(1);
    s.terms(4, "1 MARK: 20 lent to all PEOPLE: his number.");
    asks(x, 4, 1, 4 - (1 - 100), 23, 20, 13, 10);
    s.terms(4, "21 of FAT ones: what 20 gives, and his ERRAND.");
    asks(x, 1, 1, 1 + 2, 21, 20);
    s.terms(4, "22 of WIDOWS: what 21 gives, less 1000.");
    asks(x, 2, 1, 2 + 1 - 1000, 22, 21, 20);
    s.terms(4, "23 of MONKS: what 20 gives, less SIZE.");
    asks(x, 0, 1, 0 - 2 * (14 - 100), 23, 20, 14, 13, 10);
    s.terms(4, "24 of BOYS: twice what 21 gives (asked once).");
    asks(x, 3, 1, 2 * (3 + 3), 24, 21, 20);
    s.terms(4, "0 SIZE: 10 lent to all PEOPLE: SPOT.");
    asks(x, 1, 0, 7 + 1 + 2, 11, 10, 21, 20);
    asks(x, 3, 0, -(17 + 12), 12, 11, 10, 24, 21, 20);
  }

  private void nearest() {
    s.terms(4, "(Of an ask the BODY told for the KIND begins, else that of the nearest KIND that it is, too, "
        + "else the one that is lent;");
    ErrandLanes x = Checks.on(ALL);
    int[][] first = {{11, 21}, {12, 24}, {11, 22}, {13, 23}, {14, 23}};
    for (int p = 0; p < 5; p++) {
      for (int what = 0; what < 2; what++) {
        x.ask(p, what);
        s.due("the first body of ask(" + p + ", " + what + ")", x.trace(0), first[p][what]);
      }
    }

    s.terms(4, "SIZE, MARK within others are asked of the same one anew.)");
    asks(x, 1, 0, -(8 + 2 * (1 + 1)), 12, 11, 10, 24, 21, 20);
    asks(x, 2, 0, 10 + (2 + 2 - 1000), 11, 10, 22, 21, 20);
    asks(x, 4, 1, 4 - 2 * (14 - 100), 23, 20, 14, 13, 10);
  }

  private void asked() {
    s.promise(24, "An ASK (0, 1) of one. BAD.");
    ErrandLanes x = Checks.on(ALL);
    s.due("ask(0, 0)", x.ask(0, 0), 6);
    s.due("ask(4, 1)", x.ask(4, 1), 176);
    for (int p : NOBODY) {
      s.due("ask(" + p + ", 0)", x.ask(p, 0), Checks.BAD);
    }
    for (int what : new int[] {-1, 2, 3, Integer.MIN_VALUE, Integer.MAX_VALUE}) {
      s.due("ask(0, " + what + ")", x.ask(0, what), Checks.BAD);
    }
    s.due("no path", new ErrandLanes().ask(0, 0), Checks.BAD);

    s.promise(24, "THE TRACE is empty ahead of it (where that is refused it stays).");
    s.due("refused asks left it", x.trace(0), 23);
    s.due("to its end", x.trace(4), 10);
    asks(x, 0, 1, 0, 21, 20);
    x.ask(5, 0);
    s.due("of nobody", x.trace(0), 21);
    x.ask(0, 2);
    s.due("of no such ask", x.trace(1), 20);
    x.halves(3);
    s.due("other calls leave it", x.trace(1), 20);
  }

  private void traces() {
    s.terms(4, "each of which leaves its number in THE TRACE as it begins (the first 16)");
    ErrandLanes x = Checks.on(ALL);
    asks(x, 1, 0, -12, 12, 11, 10, 24, 21, 20);

    s.promise(25, "Number i of THE TRACE; NONE.");
    s.due("at first", new ErrandLanes().trace(0), Checks.NONE);
    x.ask(3, 0);
    s.due("0", x.trace(0), 13);
    s.due("1, the last", x.trace(1), 10);
    for (int i : new int[] {2, 3, 5, 15, 16, 17, -1, Integer.MIN_VALUE, Integer.MAX_VALUE}) {
      s.due("trace(" + i + ")", x.trace(i), Checks.NONE);
    }
  }
}
