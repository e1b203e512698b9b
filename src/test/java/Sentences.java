import java.io.IOException;
import java.nio.file.Files;
import java.nio.file.Path;
import java.util.HashMap;
import java.util.Map;

/**
 * Tests of boundary cases, each of one sentence of ../shared/DOC.md. The sentence is the test's
 * name: it is printed with each answer that is not as due, and looked up in its own part of the
 * document, so that none is told otherwise than it stands there.
 */
final class Sentences {
  private static final Path DOCUMENT = Path.of("../shared/DOC.md");
  private static final int PROMISES = 27;
  private static final int PARTS = 4;

  private final Checks checks = new Checks("SentencesTest");
  private final String document;
  /** By part of the document: how many tests it has. */
  private final Map<String, Integer> tests = new HashMap<>();
  private String name = "";
  private int answers = 1;

  Sentences() throws IOException {
    document = Files.exists(DOCUMENT) ? plain(Files.readString(DOCUMENT)) : "";
  }

  /** Begins the test of a sentence of a promise. */
  void promise(int number, String sentence) {
    begin("Promise " + number, "## Promise " + number + ":", "## ", sentence);
  }

  /** Begins the test of a sentence of a part of the terms, 1 to 4; 0 is what stands ahead of them. */
  void terms(int part, String sentence) {
    String from = part == 0 ? "## Terms" : "======== " + part + " ";
    String to = part == PARTS ? "Ahead of the calls" : "======== " + (part + 1) + " ";
    begin("Terms " + part, from, to, sentence);
  }

  /** Begins the test of a line of the public face. */
  void face(String line) {
    begin("The public face", "## The public face", "## ", line);
  }

  /** Begins the test of a sentence of what the document says the class is. */
  void use(String sentence) {
    begin("What it is", "## What it is", "## ", sentence);
  }

  void due(String call, long got, long want) {
    answers++;
    checks.due(name + ": " + call, got, want);
  }

  void isSo(String what, boolean so) {
    due(what + " (1: it is so)", so ? 1 : 0, 1);
  }

  /** Ends the tests; each promise, and each part of the terms, must have had one. */
  void end() {
    closeTest();
    for (int i = 1; i <= PROMISES; i++) {
      partHasTests("Promise " + i);
    }
    for (int i = 0; i <= PARTS; i++) {
      partHasTests("Terms " + i);
    }
    checks.end();
  }

  private void begin(String part, String from, String to, String sentence) {
    closeTest();
    name = part + " \"" + sentence + "\"";
    answers = 0;
    tests.merge(part, 1, Integer::sum);
    if (document.isEmpty()) {
      return;
    }
    int start = document.indexOf(from);
    int end = document.indexOf(to, start + from.length());
    String told = end < 0 ? document.substring(start) : document.substring(start, end);
    checks.due(name + " stands in the document, 1", told.contains(plain(sentence)) ? 1 : 0, 1);
  }

  private void closeTest() {
    checks.due(name + " looks at an answer, 1", answers > 0 ? 1 : 0, 1);
  }

  private void partHasTests(String part) {
    checks.due(part + " has a test, 1", tests.containsKey(part) ? 1 : 0, 1);
  }

  private static String plain(String text) {
    return text.replaceAll("\\s+", " ");
  }
}
