import java.io.IOException;
import java.nio.file.Files;
import java.nio.file.Path;
import java.util.regex.Matcher;
import java.util.regex.Pattern;

/** What can be seen in the source of the rules of ../shared/LANGUAGE.md. */
public final class RulesTest {
  private static final Checks C = new Checks("RulesTest");
  private static final String[] BARRED = {"throw", "throws", "try", "catch", "finally",
      "synchronized", "assert", "import", "package", "volatile", "transient", "native", "float",
      "double", "protected", "System\\.(?!arraycopy)", "Thread", "Object", "hashCode", "toString",
      "equals", "lambda", "->", "::", "\\w+Exact", "Exception", "Error", "instanceof"};

  public static void main(String[] args) throws IOException {
    String source = Files.readString(Path.of("src/main/java/ErrandLanes.java"));
    for (int i = 0; i < source.length(); i++) {
      if (source.charAt(i) > 126) {
        C.due("a sign at " + i, source.charAt(i), 126);
      }
    }
    String code = source.replaceAll("(?s)/\\*.*?\\*/", "").replaceAll("//[^\n]*", "");
    for (String word : BARRED) {
      String edged = Character.isLetter(word.charAt(0)) ? "\\b" + word : word;
      Matcher m = Pattern.compile(edged + (word.matches("\\w+") ? "\\b" : "")).matcher(code);
      C.due("'" + word + "' in the code", m.find() ? 1 : 0, 0);
    }
    C.due("a static that is not final, and no class or method",
        found(code, "static (?!final\\b)[^(;{]*[;=]"), 0);
    C.due("text joined by +", found(code, "\"\\s*\\+|\\+\\s*\""), 0);
    C.due("eight parameters or more", found(code, "\\w+\\((?:\\w+(?:\\[\\])? \\w+, ){7}\\w"), 0);
    methodLengths(code);
    C.end();
  }

  private static int found(String code, String pattern) {
    return Pattern.compile(pattern).matcher(code).find() ? 1 : 0;
  }

  /** A method's head ends with a brace and has a bracket; loops and tests are inside one. */
  private static void methodLengths(String code) {
    String[] lines = code.split("\n");
    int methods = 0;
    for (int i = 0; i < lines.length; i++) {
      Matcher head = Pattern.compile("^( ++)(?!if|for|while|switch|else|\\})[\\w\\[\\] ]+\\(.*\\{$").matcher(lines[i]);
      if (!head.find()) {
        continue;
      }
      int end = i;
      while (!lines[end].equals(head.group(1) + "}")) {
        end++;
      }
      methods++;
      C.due("lines of " + lines[i].strip() + ", 60 at most: 1", end - i <= 60 ? 1 : 0, 1);
    }
    C.due("methods were seen, 1", methods > 60 ? 1 : 0, 1);
  }
}
