import java.io.IOException;
import java.nio.file.Files;
import java.nio.file.Path;
import java.util.HashSet;
import java.util.Map;
import java.util.Set;
import java.util.TreeMap;
import java.util.TreeSet;
import java.util.regex.Matcher;
import java.util.regex.Pattern;

/** What can be seen in the source of the rules of ../shared/LANGUAGE.md; FaceTest looks at rules 1 and 2. */
public final class RulesTest {
  private static final Checks C = new Checks("RulesTest");
  private static final Path SOURCE = Path.of("src/main/java/ErrandLanes.java");
  private static final int LONGEST_METHOD = 60;
  private static final int DEEPEST_CALL = 8;

  /** By method: the lines of its body. Methods of one name count as one. */
  private static final Map<String, String> BODIES = new TreeMap<>();

  public static void main(String[] args) throws IOException {
    String source = Files.readString(SOURCE);
    for (int i = 0; i < source.length(); i++) {
      if (source.charAt(i) > 126) {
        C.due("rule 4: a sign at " + i, source.charAt(i), 126);
      }
    }
    String code = source.replaceAll("(?s)/\\*.*?\\*/", "").replaceAll("//[^\n]*", "");
    words(code);
    library(code);
    readMethods(code);
    depth();
    sizes();
    C.end();
  }

  private static void words(String code) {
    bars("a package line", code, "^package\\b");
    bars("rule 1: protected", code, "\\bprotected\\b");
    bars("rule 2: a lambda or a method reference", code, "::|(?<!case [\\w, ]{1,80})->");
    bars("rule 2: a class without a name", code, "\\bnew \\w+\\([^()]*\\) \\{");
    bars("rule 5: a static that is not final", code, "\\bstatic (?!final\\b)[^(;{]*[;=]");
    bars("rule 5: a static block", code, "\\bstatic \\{");
    bars("rule 6: a barred word", code, "\\b(throw|throws|try|catch|finally|synchronized|assert)\\b");
    bars("rule 6: a method of all objects", code, "\\b(int hashCode|String toString|boolean equals)\\(");
    bars("rule 9: a loop without an end", code, "while \\(true\\)|for \\(;[^;]*true;|for \\(; ?;");
    bars("rule 10: texts joined by +", code, "\"\\s*\\+|\\+\\s*\"");
    bars("rule 11: eight parameters", code, "\\w+\\((?:\\w+(?:\\[\\])* \\w+, ){7}\\w");
    bars("rule 12: a part of the object handed on as it is made", code, "\\bnew [A-Z]\\w*\\([^)]");
  }

  private static void library(String code) {
    bars("rule 4: a name that ends in Exact", code, "\\w+Exact\\b");
    bars("rules 4 and 13: what no rule allows", code, "^import (?!java\\.util\\.(ArrayList|List|Arrays|Iterator);)");
    bars("rules 4 and 13: what no rule allows", code, "\\bSystem\\.(?!arraycopy\\()");
    bars("rules 4 and 13: what no rule allows", code, "\\bjava\\.(?!util\\.)|\\bThread\\b|\\bObject\\b");
  }

  private static void bars(String what, String code, String pattern) {
    Matcher m = Pattern.compile(pattern, Pattern.MULTILINE).matcher(code);
    boolean found = m.find();
    C.due(what + (found ? ": " + m.group() : ""), found ? 1 : 0, 0);
  }

  /** A method's head ends with a brace and has a bracket; loops and tests are inside one. */
  private static void readMethods(String code) {
    String[] lines = code.split("\n");
    Pattern head = Pattern.compile("^( ++)(?:[\\w\\[\\]]+ )*(\\w+)\\(.*\\{$");
    for (int i = 0; i < lines.length; i++) {
      Matcher m = head.matcher(lines[i]);
      if (!m.find() || Set.of("if", "for", "while", "switch").contains(m.group(2))) {
        continue;
      }
      StringBuilder body = new StringBuilder();
      int first = i;
      while (!lines[i].equals(m.group(1) + "}")) {
        i++;
        body.append(lines[i]).append('\n');
      }
      BODIES.merge(m.group(2), body.toString(), String::concat);
      C.due("rule 11: lines of " + m.group(2) + ", few enough: 1", i - first <= LONGEST_METHOD ? 1 : 0, 1);
    }
    C.due("methods were seen, 1", BODIES.size() > 30 ? 1 : 0, 1);
  }

  /** Calls of one another, which carry a depth of their own by rule 8, count once. */
  private static void depth() {
    for (String method : BODIES.keySet()) {
      C.due("rule 11: calls within " + method + ", few enough: 1",
          depth(method, new HashSet<>()) <= DEEPEST_CALL ? 1 : 0, 1);
    }
    Set<String> callThemselves = new TreeSet<>();
    for (String method : BODIES.keySet()) {
      if (reaches(method, method, new HashSet<>())) {
        callThemselves.add(method);
      }
    }
    for (String method : callThemselves) {
      C.due("rule 8: " + method + " carries a depth, 1",
          BODIES.get(method).matches("(?s).*\\b(depth|in)\\b.*") ? 1 : 0, 1);
    }
  }

  private static int depth(String method, Set<String> open) {
    open.add(method);
    int deepest = 0;
    for (String called : callsOf(method)) {
      if (!open.contains(called)) {
        deepest = Math.max(deepest, depth(called, open));
      }
    }
    open.remove(method);
    return deepest + 1;
  }

  private static boolean reaches(String from, String wanted, Set<String> seen) {
    for (String called : callsOf(from)) {
      if (called.equals(wanted) || (seen.add(called) && reaches(called, wanted, seen))) {
        return true;
      }
    }
    return false;
  }

  private static Set<String> callsOf(String method) {
    Set<String> calls = new TreeSet<>();
    Matcher m = Pattern.compile("\\b(\\w+)\\(").matcher(BODIES.get(method));
    while (m.find()) {
      if (BODIES.containsKey(m.group(1))) {
        calls.add(m.group(1));
      }
    }
    return calls;
  }

  private static void sizes() {
    Class<?>[] inside = ErrandLanes.class.getDeclaredClasses();
    C.due("rule 11: classes, few enough: 1", inside.length + 1 <= 12 ? 1 : 0, 1);
    fields(ErrandLanes.class);
    for (Class<?> c : inside) {
      fields(c);
    }
  }

  private static void fields(Class<?> c) {
    int fields = 0;
    for (java.lang.reflect.Field f : c.getDeclaredFields()) {
      if (!java.lang.reflect.Modifier.isStatic(f.getModifiers())) {
        fields++;
      }
    }
    C.due("rule 11: fields of " + c.getSimpleName() + ", few enough: 1", fields <= 20 ? 1 : 0, 1);
  }
}
