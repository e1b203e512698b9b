import java.util.ArrayList;
import java.util.List;

/** A path told anew, plainly and slowly, to hold the program's answers against. */
final class Model {
  /** A path at one moment; it never changes. */
  record Moment(int[] spots, boolean[] ups, int[] errands, boolean[] done, int gone) {}

  final int top;
  final int law;
  final String[] sorts;
  final int[] goals;
  Moment now;
  List<Moment> past = new ArrayList<>();

  Model(int yards, int law, String[] sorts, int[] spots, boolean[] ups, int[] goals) {
    this.top = 2 * yards;
    this.law = law;
    this.sorts = sorts;
    this.goals = goals;
    int[] errands = new int[sorts.length];
    for (int p = 0; p < errands.length; p++) {
      errands[p] = p;
    }
    this.now = looked(new Moment(spots, ups, errands, new boolean[errands.length], 0));
  }

  private Model(Model other) {
    top = other.top;
    law = other.law;
    sorts = other.sorts;
    goals = other.goals;
    now = other.now;
  }

  /** The same path without a past. */
  Model image() {
    return new Model(this);
  }

  boolean stands(int person) {
    return sorts[person].equals("cow");
  }

  private Moment looked(Moment m) {
    boolean[] done = m.done.clone();
    for (int e = 0; e < goals.length; e++) {
      done[e] |= m.spots[holder(m, e)] == goals[e];
    }
    return new Moment(m.spots, m.ups, m.errands, done, m.gone);
  }

  static int holder(Moment m, int errand) {
    for (int p = 0; p < m.errands.length; p++) {
      if (m.errands[p] == errand) {
        return p;
      }
    }
    throw new IllegalStateException("errand " + errand + " is lost");
  }

  Moment next(Moment m) {
    int[] spots = m.spots.clone();
    boolean[] ups = m.ups.clone();
    int[] errands = m.errands.clone();
    for (int p = 0; p < spots.length; p++) {
      if (stands(p)) {
        continue;
      }
      int to = ups[p] ? spots[p] + 1 : spots[p] - 1;
      if (to == -1) {
        ups[p] = true;
        to = 1;
      } else if (to == top + 1) {
        ups[p] = false;
        to = top - 1;
      }
      spots[p] = to;
    }
    for (int later = 0; later < spots.length; later++) {
      for (int earlier = 0; earlier < later; earlier++) {
        boolean face = spots[later] == spots[earlier] && ups[later] ^ ups[earlier];
        if (!face || stands(later) || stands(earlier)) {
          continue;
        }
        if (law != 1) {
          int e = errands[later];
          errands[later] = errands[earlier];
          errands[earlier] = e;
        }
        if (law == 0) {
          boolean up = ups[later];
          ups[later] = ups[earlier];
          ups[earlier] = up;
        }
      }
    }
    return looked(new Moment(spots, ups, errands, m.done, m.gone + 1));
  }

  /** The moments from m on, n halves of them. */
  List<Moment> from(Moment m, int n) {
    List<Moment> all = new ArrayList<>();
    all.add(m);
    for (int i = 0; i < n; i++) {
      all.add(next(all.get(i)));
    }
    return all;
  }

  /** By set: as all is now, with ways by the set; null where a cow is in it. */
  Moment[] startsBySet() {
    Moment[] starts = new Moment[1 << sorts.length];
    for (int set = 0; set < starts.length; set++) {
      boolean[] ups = now.ups.clone();
      boolean holdsCow = false;
      for (int p = 0; p < sorts.length; p++) {
        boolean in = (set & (1 << p)) != 0;
        if (stands(p)) {
          holdsCow |= in;
        } else {
          ups[p] = in;
        }
      }
      starts[set] = holdsCow ? null : new Moment(now.spots, ups, now.errands, now.done, now.gone);
    }
    return starts;
  }

  static boolean all(boolean[] done) {
    for (boolean d : done) {
      if (!d) {
        return false;
      }
    }
    return true;
  }

  static int bits(boolean[] set) {
    int bits = 0;
    for (int i = 0; i < set.length; i++) {
      bits |= set[i] ? 1 << i : 0;
    }
    return bits;
  }

  int halves(int n) {
    int before = bits(now.done);
    for (int i = 0; i < n; i++) {
      past.add(now);
      now = next(now);
    }
    while (past.size() > 24) {
      past.remove(0);
    }
    return bits(now.done) ^ before;
  }

  int undo() {
    if (past.isEmpty()) {
      return Checks.STATE;
    }
    now = past.remove(past.size() - 1);
    return past.size();
  }

  int[] done(int errand) {
    List<Moment> all = from(now, 120);
    for (int n = 0; n <= 120; n++) {
      if (all.get(n).done[errand]) {
        return new int[] {n, holder(all.get(n), errand)};
      }
    }
    return new int[] {Checks.NONE, Checks.NONE};
  }

  int holders(Moment start, int errand, int n) {
    int bits = 0;
    for (Moment m : from(start, n)) {
      bits |= 1 << holder(m, errand);
    }
    return bits;
  }

  int[] soon() {
    Moment[] starts = startsBySet();
    for (int n = 0; n <= 120; n++) {
      for (int set = 0; set < starts.length; set++) {
        if (starts[set] == null) {
          continue;
        }
        if (all(starts[set].done)) {
          return new int[] {n, set};
        }
        starts[set] = next(starts[set]);
      }
    }
    return new int[] {Checks.NONE, Checks.NONE};
  }

  int[] clean(int errand, int people, int n) {
    List<Integer> sets = new ArrayList<>();
    Moment[] starts = startsBySet();
    for (int set = 0; set < starts.length; set++) {
      if (starts[set] != null && (holders(starts[set], errand, n) & people) == 0) {
        sets.add(set);
      }
    }
    return told(sets);
  }

  int[] hands(int errand, int n) {
    long sum = 0;
    long sets = 0;
    for (Moment start : startsBySet()) {
      if (start != null) {
        sum += Integer.bitCount(holders(start, errand, n));
        sets++;
      }
    }
    long shared = java.math.BigInteger.valueOf(sum).gcd(java.math.BigInteger.valueOf(sets)).longValue();
    return new int[] {(int) (sum / shared), (int) (sets / shared)};
  }

  int[] began(int[] row, int n) {
    List<Integer> sets = new ArrayList<>();
    Moment[] starts = startsBySet();
    for (int set = 0; set < starts.length; set++) {
      if (starts[set] != null
          && java.util.Arrays.equals(from(starts[set], n).get(n).errands, row)) {
        sets.add(set);
      }
    }
    return told(sets);
  }

  private static int[] told(List<Integer> sets) {
    return new int[] {sets.size(), sets.isEmpty() ? Checks.NONE : sets.get(0)};
  }

  int size(int p) {
    int spot = now.spots[p];
    return switch (sorts[p]) {
      case "fat", "widow" -> spot + mark(p);
      case "boy" -> -(spot + mark(p));
      case "monk" -> spot - 100;
      default -> 2 * (spot - 100);
    };
  }

  int mark(int p) {
    return switch (sorts[p]) {
      case "fat" -> p + now.errands[p];
      case "boy" -> 2 * (p + now.errands[p]);
      case "widow" -> p + now.errands[p] - 1000;
      default -> p - size(p);
    };
  }
}
