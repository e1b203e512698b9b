import java.io.IOException;
import java.lang.reflect.Method;
import java.nio.file.Files;
import java.nio.file.Path;
import java.util.Set;
import java.util.TreeSet;
import java.util.regex.Matcher;
import java.util.regex.Pattern;
import java.util.stream.Collectors;
import java.util.stream.Stream;

/** README.md tells answers, files and tests as they are. */
public final class ReadmeTest {
  private static final Checks C = new Checks("ReadmeTest");
  private static final Path TESTS = Path.of("src/test/java");

  public static void main(String[] args) throws IOException, ReflectiveOperationException {
    String readme = Files.readString(Path.of("README.md"));
    example(readme);
    tests(readme);
    files(readme);
    C.end();
  }

  /** Each call of the example, made anew, answers what is told behind it. */
  private static void example(String readme) throws ReflectiveOperationException {
    Matcher text = Pattern.compile("String text = \"([^\"]+)\";").matcher(readme);
    C.due("the example has a text, 1", text.find() ? 1 : 0, 1);
    ErrandLanes lanes = new ErrandLanes();
    for (char c : text.group(1).toCharArray()) {
      lanes.feed(c, 1);
    }
    Matcher call = Pattern.compile("(?m)^lanes\\.(\\w+)\\(([^)]*)\\); +// (-?\\d+)\\b").matcher(readme);
    int calls = 0;
    while (call.find()) {
      C.due("the example's " + call.group(), answer(lanes, call.group(1), call.group(2)), Integer.parseInt(call.group(3)));
      calls++;
    }
    C.due("the example has calls, 1", calls >= 5 ? 1 : 0, 1);
  }

  private static int answer(ErrandLanes lanes, String name, String args) throws ReflectiveOperationException {
    String[] told = args.isEmpty() ? new String[0] : args.split(", ");
    Object[] values = new Object[told.length];
    Class<?>[] types = new Class<?>[told.length];
    for (int i = 0; i < told.length; i++) {
      values[i] = Integer.parseInt(told[i]);
      types[i] = int.class;
    }
    Method method = ErrandLanes.class.getMethod(name, types);
    return (int) method.invoke(lanes, values);
  }

  /** The table tells all tests that there are, and no others. */
  private static void tests(String readme) throws IOException {
    Set<String> told = new TreeSet<>();
    Matcher row = Pattern.compile("(?m)^\\| ((?:\\w+Test(?:, )?)+) \\|").matcher(readme);
    while (row.find()) {
      told.addAll(Set.of(row.group(1).split(", ")));
    }
    try (Stream<Path> files = Files.list(TESTS)) {
      Set<String> there = files.map(f -> f.getFileName().toString())
          .filter(f -> f.endsWith("Test.java"))
          .map(f -> f.replace(".java", ""))
          .collect(Collectors.toCollection(TreeSet::new));
      C.due("the table tells " + told + ", there are " + there + ", 1", told.equals(there) ? 1 : 0, 1);
    }
  }

  /** The project's files and folders that are named stand where they are said to be. */
  private static void files(String readme) {
    Matcher name = Pattern.compile("(?:src/(?:main|test)/java|\\.ci)(?:/\\w+(?:\\.\\w+)?)*").matcher(readme);
    int names = 0;
    while (name.find()) {
      C.due(name.group() + " is there, 1", Files.exists(Path.of(name.group())) ? 1 : 0, 1);
      names++;
    }
    C.due("files are named, 1", names >= 4 ? 1 : 0, 1);
  }
}
