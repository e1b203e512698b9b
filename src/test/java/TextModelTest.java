import java.util.ArrayList;
import java.util.List;
import java.util.Random;
import java.util.regex.Matcher;
import java.util.regex.Pattern;

/** Promises 7 and 8, and terms 1: random texts, many of them a little wrong, against a second reading. */
public final class TextModelTest {
  private static final Checks C = new Checks("TextModelTest");
  private static final List<String> SORTS = List.of("fat", "boy", "widow", "monk", "cow");
  private static final String[] ODD_TOKENS = {";", "path", "person", "fat", "cow", "fats", "x", "0", "1",
      "2", "3", "007", "060", "062", "999", "0000", "1000", "99999999999", "P", "-", "\t", "\r", "\u0000", "\u00ff"};

  public static void main(String[] args) {
    int[] seen = new int[4];
    for (int seed = 0; seed < 400; seed++) {
      Random random = new Random(seed);
      ErrandLanes x = new ErrandLanes();
      int fault = 0;
      for (int i = 0; i < 6; i++) {
        String text = new Text(random).told();
        Reading due = new Reading(text);
        C.due("seed " + seed + ": '" + text + "'", Checks.read(x, text), due.answer());
        fault = due.fault == 0 ? fault : due.fault;
        C.due("seed " + seed + ": fault behind '" + text + "'", x.fault(), fault);
        if (due.fault == 0) {
          looksSo(x, due, text);
        }
        seen[due.fault]++;
      }
    }
    System.out.println("TextModelTest: without a fault, with 1, 2, 3: " + java.util.Arrays.toString(seen));
    for (int fault = 0; fault < seen.length; fault++) {
      C.due("fault " + fault + " came often, 1", seen[fault] >= 40 ? 1 : 0, 1);
    }
    C.end();
  }

  private static void looksSo(ErrandLanes x, Reading due, String text) {
    for (int p = 0; p < due.people; p++) {
      int[] one = due.told.get(p);
      C.due("kind of " + p + " of '" + text + "'", x.kind(p), one[0]);
      C.due("spot of " + p + " of '" + text + "'", x.person(p, 0), one[1]);
      C.due("way of " + p + " of '" + text + "'", x.person(p, 1), one[2]);
      C.due("goal of " + p + " of '" + text + "'", x.errand(p, 0), one[3]);
    }
    C.due("no more in '" + text + "'", x.kind(due.people), Checks.BAD);
  }

  /** Makes a text: a path, then perhaps a token or a byte that is lost, put in or changed. */
  private static final class Text {
    private final Random random;
    private final List<String> tokens = new ArrayList<>();

    Text(Random random) {
      this.random = random;
    }

    String told() {
      int yards = oneIn(40) ? random.nextInt(40) : 2 + random.nextInt(29);
      add("path", number(yards), number(oneIn(40) ? 3 : random.nextInt(3)), ";");
      List<Integer> spots = new ArrayList<>();
      for (int i = 0; i <= yards; i++) {
        spots.add(2 * i);
      }
      for (int people = oneIn(4) ? 7 : random.nextInt(7); people > 0 && !spots.isEmpty(); people--) {
        int at = random.nextInt(spots.size());
        int spot = oneIn(60) ? spots.get(at) : spots.remove(at);
        add("person", SORTS.get(random.nextInt(SORTS.size())), number(oneIn(60) ? spot + 1 : spot),
            number(oneIn(60) ? 2 : random.nextInt(2)),
            number(oneIn(60) ? random.nextInt(130) : 2 * random.nextInt(yards + 1)), ";");
      }
      if (oneIn(3)) {
        spoilToken();
      }
      return spoiled(joined());
    }

    private boolean oneIn(int n) {
      return random.nextInt(n) == 0;
    }

    private void add(String... more) {
      tokens.addAll(List.of(more));
    }

    private String number(int n) {
      String figures = Integer.toString(n);
      return oneIn(10) && figures.length() < 3 ? "0" + figures : figures;
    }

    private void spoilToken() {
      int at = random.nextInt(tokens.size());
      if (oneIn(3)) {
        tokens.remove(at);
      } else if (oneIn(2)) {
        tokens.add(at, ODD_TOKENS[random.nextInt(ODD_TOKENS.length)]);
      } else {
        tokens.set(at, ODD_TOKENS[random.nextInt(ODD_TOKENS.length)]);
      }
    }

    private String joined() {
      StringBuilder text = new StringBuilder();
      for (String token : tokens) {
        boolean needed = text.length() > 0 && !token.equals(";") && text.charAt(text.length() - 1) != ';';
        for (int blanks = oneIn(8) ? random.nextInt(3) : needed ? 1 : 0; blanks > 0; blanks--) {
          text.append(oneIn(4) ? '\n' : ' ');
        }
        text.append(token);
      }
      return text.append(" ".repeat(oneIn(4) ? random.nextInt(3) : 0)).toString();
    }

    private String spoiled(String text) {
      StringBuilder all = new StringBuilder(text);
      if (oneIn(6)) {
        all.setLength(random.nextInt(all.length() + 1));
      } else if (oneIn(6)) {
        all.setCharAt(random.nextInt(all.length()), (char) random.nextInt(256));
      } else if (oneIn(6)) {
        all.deleteCharAt(random.nextInt(all.length()));
      }
      return all.toString();
    }
  }

  /** Reads a text as the document tells it, by the number of each token. */
  private static final class Reading {
    private static final Pattern TOKEN = Pattern.compile("[ \n]*([a-z]+|[0-9]+|[^ \n])", Pattern.DOTALL);
    final List<int[]> told = new ArrayList<>();
    int people = 0;
    int place = 0;
    int fault = 0;
    private int top = 0;
    private int[] one = new int[4];

    Reading(String text) {
      Matcher m = TOKEN.matcher(text);
      int number = 0;
      while (m.lookingAt()) {
        place = m.start(1);
        fault = faultOf(number, m.group(1));
        if (fault != 0) {
          return;
        }
        number++;
        m.region(m.end(), text.length());
      }
      place = text.length();
      fault = number >= 4 && number % 6 == 4 ? 0 : 1;
    }

    int answer() {
      return fault == 0 ? people : -1000100 - place;
    }

    /** Tokens 0 to 3 tell the lane; each six behind them one of the people. */
    private int faultOf(int number, String token) {
      int part = number < 4 ? number : 4 + (number - 4) % 6;
      return switch (part) {
        case 0 -> token.equals("path") ? 0 : 1;
        case 1 -> {
          int fault = numberFault(token, 2, 30, 1);
          top = fault == 0 ? 2 * Integer.parseInt(token) : 0;
          yield fault;
        }
        case 2 -> numberFault(token, 0, 2, 1);
        case 3 -> token.equals(";") ? 0 : 1;
        case 4 -> token.equals("person") ? people == 6 ? 3 : 0 : 1;
        case 5 -> kept(0, SORTS.contains(token) ? 0 : 1, SORTS.indexOf(token) + 1);
        case 6 -> spotFault(token);
        case 7 -> kept(2, numberFault(token, 0, 1, 1), token);
        case 8 -> kept(3, numberFault(token, 0, top, 2), token);
        default -> endsOne(token);
      };
    }

    private int numberFault(String token, int least, int most, int step) {
      if (!token.matches("[0-9]{1,3}")) {
        return 1;
      }
      int value = Integer.parseInt(token);
      return value < least || value > most || value % step != 0 ? 2 : 0;
    }

    private int spotFault(String token) {
      int fault = kept(1, numberFault(token, 0, top, 2), token);
      for (int[] other : told) {
        fault = fault == 0 && other[1] == one[1] ? 2 : fault;
      }
      return fault;
    }

    private int kept(int what, int fault, String token) {
      return kept(what, fault, fault == 0 ? Integer.parseInt(token) : 0);
    }

    private int kept(int what, int fault, int value) {
      one[what] = value;
      return fault;
    }

    private int endsOne(String token) {
      if (!token.equals(";")) {
        return 1;
      }
      told.add(one);
      one = new int[4];
      people++;
      return 0;
    }
  }
}
