/**
 * People walk a lane in which nobody can pass, and change their errands as they meet.
 * ../shared/DOC.md tells what each call answers; the numbers of its promises stand at the calls.
 */
public final class ErrandLanes {

  public static final int NONE = -1000000, BAD = -1000001, STATE = -1000002, FULL = -1000003;

  /** A finding is answered as FOUND less its number. */
  private static final int FOUND = -1000010;
  private static final int NULL = 1, PLACE = 2, KIND = 3, SIZE = 4, STORE = 5;

  /** A fault is answered as FAULTY less its place. */
  private static final int FAULTY = -1000100;
  private static final int MISFIT = 1, MISNUMBER = 2, CROWD = 3;

  private static final int ROWS = 8, ITEMS = 40, PEOPLE = 6, TAPE = 400, UNDOS = 24, IMAGES = 2;
  private static final int MOST_AT_ONCE = 60, MOST_EVER = 9999, MOST_AHEAD = 120, TRACED = 16;
  private static final int SHORTEST = 2, LONGEST = 30;

  private static final int BYTES = 0, SHORTS = 1, INTS = 2;
  private static final int DOWN = 0, UP = 1;
  private static final int TURN_AND_CHANGE = 0, PASS = 1, CHANGE = 2;
  private static final int PERSON = 0, FAT = 1, BOY = 2, WIDOW = 3, MONK = 4, COW = 5, KINDS = 6;
  private static final int ASK_SIZE = 0, ASK_MARK = 1;

  /** By kind: the kind that it is, too. */
  private static final int[] IS_TOO = {PERSON, PERSON, FAT, FAT, PERSON, MONK};

  /** By kind: the body told for it, 0 where none is; a person's is the one lent to all. */
  private static final int[] SIZE_BODIES = {10, 11, 12, 0, 13, 14};
  private static final int[] MARK_BODIES = {20, 21, 24, 22, 23, 0};

  /** The longest chain of bodies and asks is 7 long. */
  private static final int DEEPEST = 16;

  private final Row[] rows = new Row[ROWS];
  private final Reader reader = new Reader();
  private final Path now = new Path();
  private final Path draft = new Path();
  private final Path trial = new Path();
  private final Path[] images = new Path[IMAGES];
  private final boolean[] imaged = new boolean[IMAGES];
  private final Past past = new Past();
  private final Trace trace = new Trace();
  private final Fits fits = new Fits();
  private boolean pathRead = false;
  private int latestFault = 0;
  private int latestFinding = 0;

  /** Promise 1. */
  public ErrandLanes() {
    for (int i = 0; i < ROWS; i++) {
      rows[i] = new Row();
    }
    for (int i = 0; i < IMAGES; i++) {
      images[i] = new Path();
    }
  }

  // ---- rows

  /** Promise 2. */
  public int row(int row, int lane, int n) {
    if (!isWithin(row, ROWS) || lane < BYTES || lane > INTS || n > ITEMS) {
      return BAD;
    }
    if (n < 0) {
      return found(SIZE);
    }
    rows[row].begin(lane, n);
    return foundNone(n);
  }

  /** Promise 3. */
  public int set(int row, int i, int v) {
    if (!isWithin(row, ROWS)) {
      return BAD;
    }
    Row r = rows[row];
    if (!r.there) {
      return found(NULL);
    }
    if (!isWithin(i, r.length)) {
      return found(PLACE);
    }
    r.items[i] = r.narrowed(v);
    return foundNone(r.items[i]);
  }

  /** Promise 4. */
  public int copy(int a, int i, int b, int j, int n) {
    if (!isWithin(a, ROWS) || !isWithin(b, ROWS)) {
      return BAD;
    }
    Row from = rows[a];
    Row to = rows[b];
    if (!from.there || !to.there) {
      return found(NULL);
    }
    if (from.lane != to.lane) {
      return found(STORE);
    }
    if (!from.hasRun(i, n) || !to.hasRun(j, n)) {
      return found(PLACE);
    }
    System.arraycopy(from.items, i, to.items, j, n);
    return foundNone(n);
  }

  /** Promise 5. */
  public int drop(int row) {
    if (!isWithin(row, ROWS)) {
      return BAD;
    }
    Row r = rows[row];
    if (!r.there) {
      return found(NULL);
    }
    r.there = false;
    return foundNone(r.length);
  }

  // ---- paths, halves

  /** Promise 6. */
  public int feed(long w, int n) {
    if (n < 1 || n > 8) {
      return BAD;
    }
    Tape tape = reader.tape;
    if (tape.length + n > TAPE) {
      return FULL;
    }
    for (int i = n - 1; i >= 0; i--) {
      tape.append((char) ((w >>> (8 * i)) & 255));
    }
    return tape.length;
  }

  /** Promise 7. */
  public int path() {
    boolean isPath = reader.reads(draft);
    reader.tape.length = 0;
    if (!isPath) {
      latestFault = reader.fault;
      return FAULTY - reader.first;
    }
    now.become(draft);
    pathRead = true;
    past.clear();
    return now.people;
  }

  /** Promise 8. */
  public int fault() {
    return latestFault;
  }

  /** Promise 9. */
  public int halves(int n) {
    if (!pathRead) {
      return STATE;
    }
    if (n < 1 || n > MOST_AT_ONCE) {
      return BAD;
    }
    if (now.gone + n > MOST_EVER) {
      return FULL;
    }
    int before = now.finished;
    for (int i = 0; i < n; i++) {
      past.keep(now);
      now.goHalf();
    }
    return now.finished & ~before;
  }

  /** Promise 10. */
  public int undo() {
    if (past.length == 0) {
      return STATE;
    }
    past.giveBack(now);
    return past.length;
  }

  /** Promise 11. */
  public int person(int person, int what) {
    if (!isWithin(person, now.people)) {
      return BAD;
    }
    return now.tellPerson(person, what);
  }

  /** Promise 12. */
  public int errand(int errand, int what) {
    if (!isWithin(errand, now.people)) {
      return BAD;
    }
    switch (what) {
      case 0:
        return now.goals[errand];
      case 1:
        return (now.finished >> errand) & 1;
      case 2:
        return now.holder(errand);
      case 3:
        return now.spots[now.holder(errand)];
      default:
        return BAD;
    }
  }

  // ---- foretold

  /** Promise 13. */
  public int ahead(int person, int n, int what) {
    if (!isWithin(person, now.people) || !isForetold(n)) {
      return BAD;
    }
    trial.become(now);
    trial.goHalves(n);
    return trial.tellPerson(person, what);
  }

  /** Promise 14. */
  public int done(int errand, int what) {
    if (!isWithin(errand, now.people) || !isWithin(what, 2)) {
      return BAD;
    }
    trial.become(now);
    int n = trial.halvesUntil(1 << errand, MOST_AHEAD);
    if (n == NONE) {
      return NONE;
    }
    return what == 0 ? n : trial.holder(errand);
  }

  /** Promise 15. */
  public int secret(int errand, int n) {
    if (!isWithin(errand, now.people) || !isForetold(n)) {
      return BAD;
    }
    trial.become(now);
    return trial.holdersAhead(errand, n);
  }

  /** Promise 16. */
  public int soon(int what) {
    if (!pathRead) {
      return STATE;
    }
    if (!isWithin(what, 2)) {
      return BAD;
    }
    int all = now.sets() - 1;
    int soonest = NONE;
    int by = NONE;
    for (int set = 0; set < now.sets(); set++) {
      if (trialBeginsBy(set)) {
        // A later set is better only where it is sooner, so no more need be tried.
        int most = soonest == NONE ? MOST_AHEAD : soonest - 1;
        int n = trial.halvesUntil(all, most);
        if (n != NONE) {
          soonest = n;
          by = set;
        }
      }
    }
    return what == 0 ? soonest : by;
  }

  /** Promise 17. */
  public int clean(int errand, int people, int n, int what) {
    if (!isWithin(errand, now.people) || !isWithin(people, now.sets())
        || !isForetold(n) || !isWithin(what, 2)) {
      return BAD;
    }
    fits.clear();
    for (int set = 0; set < now.sets(); set++) {
      if (trialBeginsBy(set)) {
        if ((trial.holdersAhead(errand, n) & people) == 0) {
          fits.add(set);
        }
      }
    }
    return fits.tell(what);
  }

  /** Promise 18. */
  public int hands(int errand, int n, int what) {
    if (!isWithin(errand, now.people) || !isForetold(n) || !isWithin(what, 2)) {
      return BAD;
    }
    int above = 0;
    int below = 0;
    for (int set = 0; set < now.sets(); set++) {
      if (trialBeginsBy(set)) {
        above += Integer.bitCount(trial.holdersAhead(errand, n));
        below++;
      }
    }
    // There are as many sets as some power of 2, so 2 is all that both can share.
    for (; below > 1 && above % 2 == 0; below /= 2) {
      above /= 2;
    }
    return what == 0 ? above : below;
  }

  /** Promise 19. */
  public int began(int row, int n, int what) {
    if (!pathRead) {
      return STATE;
    }
    if (!isWithin(row, ROWS) || !isForetold(n) || !isWithin(what, 2)) {
      return BAD;
    }
    Row r = rows[row];
    if (!r.there) {
      return found(NULL);
    }
    if (r.length < now.people) {
      return found(PLACE);
    }
    if (!r.isAllBelow(now.people)) {
      return BAD;
    }
    fits.clear();
    for (int set = 0; set < now.sets(); set++) {
      if (trialBeginsBy(set)) {
        trial.goHalves(n);
        if (trial.isCarriedAs(r)) {
          fits.add(set);
        }
      }
    }
    return foundNone(fits.tell(what));
  }

  /** Promise 20. */
  public int image(int k) {
    if (!isWithin(k, IMAGES)) {
      return BAD;
    }
    if (!pathRead) {
      return STATE;
    }
    images[k].become(now);
    imaged[k] = true;
    return 1;
  }

  /** Promise 21. */
  public int restore(int k) {
    if (!isWithin(k, IMAGES)) {
      return BAD;
    }
    if (!imaged[k]) {
      return STATE;
    }
    now.become(images[k]);
    past.clear();
    return 1;
  }

  // ---- asked

  /** Promise 22. */
  public int kind(int person) {
    return isWithin(person, now.people) ? now.kinds[person] : BAD;
  }

  /** Promise 23. */
  public int as(int person, int kind) {
    if (!isWithin(person, now.people) || !isWithin(kind, KINDS)) {
      return BAD;
    }
    return isOf(now.kinds[person], kind) ? foundNone(person) : found(KIND);
  }

  /** Promise 24. */
  public int ask(int person, int what) {
    if (!isWithin(person, now.people) || what < ASK_SIZE || what > ASK_MARK) {
      return BAD;
    }
    trace.length = 0;
    return asked(what, person, 0);
  }

  /** Promise 25. */
  public int trace(int i) {
    return isWithin(i, trace.length) ? trace.numbers[i] : NONE;
  }

  /** Promise 26. */
  public int count(int what) {
    switch (what) {
      case 0:
        return rowsThere();
      case 1:
        return now.people;
      case 2:
        return now.gone;
      case 3:
        return past.length;
      case 4:
        return Integer.bitCount(now.finished);
      case 5:
        return reader.tape.length;
      default:
        return BAD;
    }
  }

  /** Promise 27. */
  public int status() {
    return latestFinding;
  }

  // ---- what several calls need

  private static boolean isWithin(int i, int n) {
    return i >= 0 && i < n;
  }

  private static boolean isForetold(int n) {
    return isWithin(n, MOST_AHEAD + 1);
  }

  private int found(int finding) {
    latestFinding = finding;
    return FOUND - finding;
  }

  private int foundNone(int answer) {
    latestFinding = 0;
    return answer;
  }

  private int rowsThere() {
    int n = 0;
    for (int i = 0; i < ROWS; i++) {
      if (rows[i].there) {
        n++;
      }
    }
    return n;
  }

  /** Whether people can set out by a set; if so, the trial is as they do it now. */
  private boolean trialBeginsBy(int set) {
    if (!now.canSetOut(set)) {
      return false;
    }
    trial.become(now);
    trial.setOut(set);
    return true;
  }

  private static boolean isOf(int kind, int wanted) {
    int k = kind;
    for (int level = 0; level < KINDS && k != wanted; level++) {
      k = IS_TOO[k];
    }
    return k == wanted;
  }

  /** The body told for a kind, else the one of the nearest kind that it is, too. */
  private static int nearestBody(int[] bodies, int kind) {
    int k = kind;
    for (int level = 0; level < KINDS && bodies[k] == 0; level++) {
      k = IS_TOO[k];
    }
    return bodies[k];
  }

  /** What one of the people answers; depth is how many bodies have begun and not ended. */
  private int asked(int what, int person, int depth) {
    int[] bodies = what == ASK_SIZE ? SIZE_BODIES : MARK_BODIES;
    return given(nearestBody(bodies, now.kinds[person]), person, depth);
  }

  /** What a body gives of one of the people. */
  private int given(int body, int person, int depth) {
    if (depth >= DEEPEST) {
      return 0;
    }
    int in = depth + 1;
    trace.leave(body);
    switch (body) {
      case 10:
        return now.spots[person];
      case 11:
        return given(10, person, in) + asked(ASK_MARK, person, in);
      case 12:
        return -given(11, person, in);
      case 13:
        return given(10, person, in) - 100;
      case 14:
        return 2 * given(13, person, in);
      case 20:
        return person;
      case 21:
        return given(20, person, in) + now.errands[person];
      case 22:
        return given(21, person, in) - 1000;
      case 23:
        return given(20, person, in) - asked(ASK_SIZE, person, in);
      case 24:
        return 2 * given(21, person, in);
      default:
        return 0;
    }
  }

  /** A row, or the room for one that is missing. */
  private static final class Row {
    final int[] items = new int[ITEMS];
    boolean there = false;
    int lane = BYTES;
    int length = 0;

    void begin(int newLane, int n) {
      there = true;
      lane = newLane;
      length = n;
      for (int i = 0; i < ITEMS; i++) {
        items[i] = 0;
      }
    }

    int narrowed(int v) {
      if (lane == BYTES) {
        return (byte) v;
      }
      return lane == SHORTS ? (short) v : v;
    }

    boolean hasRun(int from, int n) {
      return n >= 0 && n <= length && from >= 0 && from <= length - n;
    }

    /** Whether each of the first n items is one of 0 .. n - 1. */
    boolean isAllBelow(int n) {
      for (int i = 0; i < n; i++) {
        if (!isWithin(items[i], n)) {
          return false;
        }
      }
      return true;
    }
  }

  /** The bytes that were fed and not read yet. */
  private static final class Tape {
    final char[] bytes = new char[TAPE];
    int length = 0;

    void append(char b) {
      if (length < TAPE) {
        bytes[length] = b;
        length++;
      }
    }
  }

  /** The numbers that bodies leave. */
  private static final class Trace {
    final int[] numbers = new int[TRACED];
    int length = 0;

    void leave(int number) {
      if (length < TRACED) {
        numbers[length] = number;
        length++;
      }
    }
  }

  /** Sets that fit what is asked, given in rising order: how many, and the least. */
  private static final class Fits {
    int many = 0;
    int least = NONE;

    void clear() {
      many = 0;
      least = NONE;
    }

    void add(int set) {
      if (many == 0) {
        least = set;
      }
      many++;
    }

    int tell(int what) {
      return what == 0 ? many : least;
    }
  }

  /** The path as it was ahead of the latest halves; older ones give way to newer ones. */
  private static final class Past {
    final Path[] kept = new Path[UNDOS];
    int next = 0;
    int length = 0;

    Past() {
      for (int i = 0; i < UNDOS; i++) {
        kept[i] = new Path();
      }
    }

    void clear() {
      next = 0;
      length = 0;
    }

    void keep(Path path) {
      kept[next].become(path);
      next = (next + 1) % UNDOS;
      length = Math.min(length + 1, UNDOS);
    }

    void giveBack(Path path) {
      next = (next + UNDOS - 1) % UNDOS;
      length--;
      path.become(kept[next]);
    }
  }

  /** A path as it is at one moment; without one there are no people. */
  private static final class Path {
    final int[] kinds = new int[PEOPLE];
    final int[] goals = new int[PEOPLE];
    final int[] spots = new int[PEOPLE];
    final int[] ways = new int[PEOPLE];
    final int[] errands = new int[PEOPLE];
    int top = 0;
    int law = 0;
    int people = 0;
    int gone = 0;
    int finished = 0;

    /** Begins a path of nobody. */
    void begin(int newTop, int newLaw) {
      top = newTop;
      law = newLaw;
      people = 0;
      gone = 0;
      finished = 0;
    }

    void become(Path other) {
      for (int p = 0; p < PEOPLE; p++) {
        kinds[p] = other.kinds[p];
        goals[p] = other.goals[p];
        spots[p] = other.spots[p];
        ways[p] = other.ways[p];
        errands[p] = other.errands[p];
      }
      top = other.top;
      law = other.law;
      people = other.people;
      gone = other.gone;
      finished = other.finished;
    }

    int tellPerson(int p, int what) {
      switch (what) {
        case 0:
          return spots[p];
        case 1:
          return ways[p];
        case 2:
          return errands[p];
        default:
          return BAD;
      }
    }

    boolean hasSomebodyAt(int spot) {
      for (int p = 0; p < people; p++) {
        if (spots[p] == spot) {
          return true;
        }
      }
      return false;
    }

    /** Every errand has one holder, so the last is asked no more. */
    int holder(int errand) {
      int p = 0;
      while (p < people - 1 && errands[p] != errand) {
        p++;
      }
      return p;
    }

    boolean isCarriedAs(Row row) {
      for (int p = 0; p < people; p++) {
        if (errands[p] != row.items[p]) {
          return false;
        }
      }
      return true;
    }

    // ---- sets to set out by

    /** The sets of people are the numbers below this. */
    int sets() {
      return 1 << people;
    }

    boolean canSetOut(int set) {
      for (int p = 0; p < people; p++) {
        if (kinds[p] == COW && ((set >> p) & 1) == 1) {
          return false;
        }
      }
      return true;
    }

    void setOut(int set) {
      for (int p = 0; p < people; p++) {
        if (kinds[p] != COW) {
          ways[p] = ((set >> p) & 1) == 1 ? UP : DOWN;
        }
      }
    }

    // ---- halves

    void goHalves(int n) {
      for (int i = 0; i < n; i++) {
        goHalf();
      }
    }

    void goHalf() {
      for (int p = 0; p < people; p++) {
        if (kinds[p] != COW) {
          walk(p);
        }
      }
      for (int p = 1; p < people; p++) {
        for (int q = 0; q < p; q++) {
          if (doMeet(p, q)) {
            meet(p, q);
          }
        }
      }
      gone++;
      finish();
    }

    void walk(int p) {
      if (spots[p] == (ways[p] == UP ? top : 0)) {
        turn(p);
      }
      spots[p] += ways[p] == UP ? 1 : -1;
    }

    void turn(int p) {
      ways[p] = ways[p] == UP ? DOWN : UP;
    }

    boolean doMeet(int p, int q) {
      return kinds[p] != COW && kinds[q] != COW && spots[p] == spots[q] && ways[p] != ways[q];
    }

    void meet(int p, int q) {
      if (law == PASS) {
        return;
      }
      int errand = errands[p];
      errands[p] = errands[q];
      errands[q] = errand;
      if (law == TURN_AND_CHANGE) {
        turn(p);
        turn(q);
      }
    }

    /** Errands that are at their goals are done, for ever. */
    void finish() {
      for (int p = 0; p < people; p++) {
        if (spots[p] == goals[errands[p]]) {
          finished |= 1 << errands[p];
        }
      }
    }

    /** Goes on until told errands are done: behind how many halves; NONE if behind none of most. */
    int halvesUntil(int wanted, int most) {
      for (int n = 0; n <= most; n++) {
        if ((finished & wanted) == wanted) {
          return n;
        }
        if (n < most) {
          goHalf();
        }
      }
      return NONE;
    }

    /** Goes on for n halves: who has an errand ahead of them, or behind one of them. */
    int holdersAhead(int errand, int n) {
      int bits = 1 << holder(errand);
      for (int i = 0; i < n; i++) {
        goHalf();
        bits |= 1 << holder(errand);
      }
      return bits;
    }
  }

  /** Has the tape, and reads it, a token at a time. */
  private static final class Reader {
    static final int END = 0, NAME = 1, NUMBER = 2, SIGN = 3, NO_TOKEN = 4;
    static final int LONGEST_NUMBER = 3;

    final Tape tape = new Tape();
    int at = 0;
    /** The first byte of the token that was read last: its fault's place. */
    int first = 0;
    int type = END;
    int value = 0;
    int fault = 0;

    /** Whether the tape tells a path, which is then as it begins; else there is a fault. */
    boolean reads(Path path) {
      at = 0;
      if (!readsLane(path)) {
        return false;
      }
      next();
      for (int p = 0; p < PEOPLE && type != END; p++) {
        if (!isWord("person")) {
          return hasFault(MISFIT);
        }
        if (!readsOne(path, p)) {
          return false;
        }
        next();
      }
      if (type != END) {
        return hasFault(isWord("person") ? CROWD : MISFIT);
      }
      path.finish();
      return true;
    }

    boolean readsLane(Path path) {
      next();
      if (!isWord("path")) {
        return hasFault(MISFIT);
      }
      if (!readsNumber(SHORTEST, LONGEST)) {
        return false;
      }
      int yards = value;
      if (!readsNumber(TURN_AND_CHANGE, CHANGE)) {
        return false;
      }
      path.begin(2 * yards, value);
      return readsSign();
    }

    /** Reads what stands behind the word of a person, who becomes number p of the people. */
    boolean readsOne(Path path, int p) {
      next();
      int kind = kindTold();
      if (kind == NONE) {
        return hasFault(MISFIT);
      }
      path.kinds[p] = kind;
      if (!readsSpot(path.top)) {
        return false;
      }
      if (path.hasSomebodyAt(value)) {
        return hasFault(MISNUMBER);
      }
      path.spots[p] = value;
      if (!readsNumber(DOWN, UP)) {
        return false;
      }
      path.ways[p] = value;
      if (!readsSpot(path.top)) {
        return false;
      }
      path.goals[p] = value;
      path.errands[p] = p;
      path.people = p + 1;
      return readsSign();
    }

    boolean readsSpot(int top) {
      if (!readsNumber(0, top)) {
        return false;
      }
      return value % 2 == 0 || hasFault(MISNUMBER);
    }

    boolean readsNumber(int least, int most) {
      next();
      if (type != NUMBER) {
        return hasFault(MISFIT);
      }
      return (value >= least && value <= most) || hasFault(MISNUMBER);
    }

    boolean readsSign() {
      next();
      return type == SIGN || hasFault(MISFIT);
    }

    int kindTold() {
      if (isWord("fat")) {
        return FAT;
      }
      if (isWord("boy")) {
        return BOY;
      }
      if (isWord("monk")) {
        return MONK;
      }
      if (isWord("widow")) {
        return WIDOW;
      }
      return isWord("cow") ? COW : NONE;
    }

    /** The token that was read last has a fault; answers that it does not fit. */
    boolean hasFault(int number) {
      fault = number;
      return false;
    }

    /** Comes to the next token. */
    void next() {
      while (at < tape.length && isBlank(tape.bytes[at])) {
        at++;
      }
      first = at;
      if (at >= tape.length) {
        type = END;
      } else if (isLetter(tape.bytes[at])) {
        type = NAME;
        while (at < tape.length && isLetter(tape.bytes[at])) {
          at++;
        }
      } else if (isFigure(tape.bytes[at])) {
        value = 0;
        while (at < tape.length && isFigure(tape.bytes[at])) {
          value = 10 * value + (tape.bytes[at] - '0');
          at++;
        }
        type = at - first <= LONGEST_NUMBER ? NUMBER : NO_TOKEN;
      } else {
        type = tape.bytes[at] == ';' ? SIGN : NO_TOKEN;
        at++;
      }
    }

    boolean isWord(String word) {
      if (type != NAME || at - first != word.length()) {
        return false;
      }
      for (int i = 0; i < word.length(); i++) {
        if (tape.bytes[first + i] != word.charAt(i)) {
          return false;
        }
      }
      return true;
    }

    static boolean isBlank(char c) {
      return c == ' ' || c == '\n';
    }

    static boolean isLetter(char c) {
      return c >= 'a' && c <= 'z';
    }

    static boolean isFigure(char c) {
      return c >= '0' && c <= '9';
    }
  }
}
