/**
 * Gates by kinship: a gate lets through only who is related, to so many degrees, to whoever went
 * through it last. The words in capitals in the comments are those of the document.
 *
 * <p>All rows are made with the object and used again, so that no call makes an object.
 */
public final class KinGates {
  public static final int BAD = -1, STATE = -2, FULL = -3, NONE = -4;

  private static final int MOST_PEOPLE = 6;
  private static final int MOST_PAIRS = 3;
  private static final int MOST_GATES = 3;
  private static final int MOST_ACTS = 8;
  private static final int MOST_BYTES = 160;
  private static final int MOST_WENT = 999;
  private static final int MOST_REACH = 9;
  private static final int MOST_SEEN = 6;
  private static final int MOST_SHEETS = 4;
  private static final int MOST_CELLS = 40;
  private static final int MOST_LANE = 2;
  private static final int MOST_READ = 20;
  private static final int MOST_DRIFT = 60;
  private static final int KINDS = 4;
  private static final int TEN = 10;

  /** The row that stands for nobody, and for no PARENT, in rows that have one place for each ONE. */
  private static final int NOBODY = MOST_PEOPLE;
  /** Further than any two who are linked can be. */
  private static final int UNLINKED = 1000;

  private static final int FAULT_TOKEN = 1;
  private static final int FAULT_PLACE = 2;
  private static final int FAULT_BOUNDS = 3;
  private static final int FAULT_AGAIN = 4;
  private static final int FAULT_MANY = 5;
  private static final int FAULT_MISSING = 6;

  private static final int SHEET_NULL = 1;
  private static final int SHEET_INDEX = 2;
  private static final int SHEET_CAST = 3;
  private static final int SHEET_SIZE = 4;

  private static final int END = 0;
  private static final int NAME = 1;
  private static final int NUMBER = 2;
  private static final int SEMICOLON = 3;
  private static final int WRONG = 4;

  private static final int WORD_MARRY = 4;
  private static final int WORD_FEUD = 5;
  private static final int WORD_GATE = 6;
  private static final int WORD_PLAN = 7;

  private final County county = new County();
  private final County trial = new County();
  private final County firstImage = new County();
  private final County secondImage = new County();
  private final boolean[] imageKept = new boolean[2];
  private final Parser parser = new Parser();
  private final Kin kin = new Kin();
  private final Course course = new Course();
  private final Lines lines = new Lines();
  private final Witness witness = new Witness();
  private final Sheets sheets = new Sheets();
  /** What THE PLAN comes to by each PARENT that is tried. */
  private final int[] outcomes = new int[MOST_PEOPLE + 1];
  private int tornFault;

  public KinGates() {
  }

  // ---- the text, what there is

  public int feed(int c) {
    if (c < 0 || c > 127) {
      return BAD;
    }
    return parser.tape.put(c) ? parser.tape.length : FULL;
  }

  public int end(int n) {
    if (n < 0 || n > parser.tape.length) {
      return BAD;
    }
    int had = parser.tape.length;
    parser.tape.length = n;
    return had;
  }

  public int text() {
    parser.readText();
    parser.tape.length = 0;
    if (parser.found != 0) {
      return -10 - parser.foundAt;
    }
    county.copyFrom(parser.draft);
    witness.size = 0;
    imageKept[0] = false;
    imageKept[1] = false;
    return parser.lineCount;
  }

  public int fault() {
    return parser.found;
  }

  public int rule(int what) {
    switch (what) {
      case 0:
        return county.people;
      case 1:
        return county.marriages.size;
      case 2:
        return county.feuds.size;
      case 3:
        return county.gates;
      case 4:
        return county.acts;
      case 5:
        return county.wentInAll();
      default:
        return BAD;
    }
  }

  public int one(int p, int what) {
    if (!county.hasOne(p)) {
      return BAD;
    }
    switch (what) {
      case 0:
        return county.kinds[p];
      case 1:
        return county.parentOf[p];
      case 2:
        return tieOf(county.kinds[p]);
      case 3:
        return county.childrenOf(p);
      case 4:
        kin.measure(county);
        return kin.linkedWith(p);
      default:
        return BAD;
    }
  }

  public int gate(int g, int what) {
    if (!county.hasGate(g)) {
      return BAD;
    }
    switch (what) {
      case 0:
        return county.reach[g];
      case 1:
        return county.last[g];
      case 2:
        return county.went[g];
      case 3:
        kin.measure(county);
        return kin.letBehind(county.last[g], county.reach[g]);
      default:
        return BAD;
    }
  }

  public int pair(int kind, int i) {
    if (!isZeroOrOne(kind)) {
      return BAD;
    }
    Pairs pairs = county.pairsOf(kind);
    return pairs.has(i) ? TEN * pairs.firsts[i] + pairs.seconds[i] : BAD;
  }

  public int act(int i) {
    return i >= 0 && i < county.acts ? county.planned[i] : BAD;
  }

  public int degree(int p, int q) {
    if (!county.hasOne(p) || !county.hasOne(q)) {
      return BAD;
    }
    kin.measure(county);
    int far = kin.between(p, q);
    return far < UNLINKED ? far : NONE;
  }

  public int forebear(int p, int q) {
    if (!county.hasOne(p) || !county.hasOne(q)) {
      return BAD;
    }
    return county.commonForebear(p, q);
  }

  // ---- what is changed

  public int alter(int p, int what, int v) {
    if (!county.hasOne(p)) {
      return BAD;
    }
    if (what == 0 && v >= 0 && v < KINDS) {
      int was = county.kinds[p];
      county.kinds[p] = v;
      return was;
    }
    if (what == 1 && (v == NONE || v >= 0 && v < p)) {
      int was = county.parentOf[p];
      county.parentOf[p] = v;
      return was;
    }
    return BAD;
  }

  public int marry(int p, int q) {
    return addPair(county.marriages, p, q);
  }

  public int feud(int p, int q) {
    return addPair(county.feuds, p, q);
  }

  public int undo(int kind, int i) {
    if (!isZeroOrOne(kind)) {
      return BAD;
    }
    Pairs pairs = county.pairsOf(kind);
    if (!pairs.has(i)) {
      return BAD;
    }
    pairs.drop(i);
    return pairs.size;
  }

  public int set(int g, int what, int v) {
    if (!county.hasGate(g)) {
      return BAD;
    }
    if (what == 0 && v >= 0 && v <= MOST_REACH) {
      int was = county.reach[g];
      county.reach[g] = v;
      return was;
    }
    if (what == 1 && (v == NONE || county.hasOne(v))) {
      int was = county.last[g];
      county.last[g] = v;
      return was;
    }
    return BAD;
  }

  public int plan(int act) {
    if (act < 0 || !county.hasOne(act / TEN) || !county.hasGate(act % TEN)) {
      return BAD;
    }
    if (county.acts >= MOST_ACTS) {
      return FULL;
    }
    county.addAct(act);
    return county.acts;
  }

  public int cut(int n) {
    if (n < 0 || n > county.acts) {
      return BAD;
    }
    int had = county.acts;
    county.acts = n;
    return had;
  }

  // ---- going

  public int go(int p, int g) {
    if (!county.hasOne(p) || !county.hasGate(g)) {
      return BAD;
    }
    openGates(county);
    return goForGood(p, g) ? 1 : 0;
  }

  public int runs(int what) {
    if (what < 0 || what > 3) {
      return BAD;
    }
    openGates(county);
    int through = course.runPlan(county, 0);
    switch (what) {
      case 0:
        return through;
      case 1:
        return Integer.bitCount(through);
      case 2:
        return course.came;
      default:
        return firstStopped(through);
    }
  }

  public int ahead(int g) {
    if (!county.hasGate(g)) {
      return BAD;
    }
    openGates(county);
    course.runPlan(county, 0);
    return course.lasts[g];
  }

  // ---- lines

  public int line(int g, int what) {
    if (!county.hasGate(g) || !isZeroOrOne(what) && what < TEN) {
      return BAD;
    }
    chartLines(county, g);
    if (what == 0) {
      return lines.most();
    }
    return what == 1 ? lines.waysOfMost() : lines.inFirst(what - TEN);
  }

  public int send(int p, int g, int what) {
    if (!county.hasOne(p) || !county.hasGate(g) || what != 0 && what < TEN) {
      return BAD;
    }
    kin.measure(county);
    lines.place(county, kin, g);
    lines.countNeeded(p);
    int fewest = lines.needed[NOBODY];
    if (fewest >= UNLINKED) {
      return NONE;
    }
    return what == 0 ? fewest : lines.sentAhead(p, what - TEN);
  }

  public int match(int g, int what) {
    if (!county.hasGate(g) || !isZeroOrOne(what)) {
      return BAD;
    }
    if (county.marriages.isFull()) {
      return FULL;
    }
    chartLines(county, g);
    int best = lines.most();
    int who = NONE;
    for (int p = 0; p < county.people; p++) {
      for (int q = p + 1; q < county.people; q++) {
        int most = mostIfMarried(p, q, g);
        if (most > best) {
          best = most;
          who = TEN * p + q;
        }
      }
    }
    return what == 0 || who == NONE ? who : best;
  }

  public int widen() {
    kin.measure(county);
    int bits = 0;
    for (int g = 0; g < county.gates; g++) {
      int now = kin.letBehind(county.last[g], county.reach[g]);
      int then = kin.letBehind(county.last[g], county.reach[g] + 1);
      if (Integer.bitCount(then) > Integer.bitCount(now)) {
        bits |= 1 << g;
      }
    }
    return bits;
  }

  public int apart(int what) {
    if (!isZeroOrOne(what)) {
      return BAD;
    }
    kin.measure(county);
    int best = -1;
    int who = NONE;
    for (int p = 0; p < county.people; p++) {
      for (int q = p + 1; q < county.people; q++) {
        int far = kin.between(p, q);
        if (far < UNLINKED && far > best) {
          best = far;
          who = TEN * p + q;
        }
      }
    }
    return what == 0 || who == NONE ? who : best;
  }

  // ---- who stays away

  public long mean(int v, int what) {
    if (v < 0 || v > TEN || !isZeroOrOne(what)) {
      return BAD;
    }
    openGates(county);
    long top = 0;
    for (int away = 0; away < 1 << county.people; away++) {
      int through = course.runPlan(county, away);
      top += weightOf(away, v) * Integer.bitCount(through);
    }
    return partOf(top, what);
  }

  public long luck(int v, int p, int what) {
    if (v < 0 || v > TEN || !county.hasOne(p) || !isZeroOrOne(what)) {
      return BAD;
    }
    openGates(county);
    long top = 0;
    for (int away = 0; away < 1 << county.people; away++) {
      course.runPlan(county, away);
      if (hasBit(course.came, p)) {
        top += weightOf(away, v);
      }
    }
    return partOf(top, what);
  }

  // ---- whose child, how far

  public int see(int i, boolean is) {
    if (i < 0 || i >= MOST_ACTS) {
      return BAD;
    }
    return witness.add(i, is) ? witness.size : FULL;
  }

  public int forget(int n) {
    if (n < 0 || n > witness.size) {
      return BAD;
    }
    int had = witness.size;
    witness.size = n;
    return had;
  }

  public int parents(int p) {
    return county.hasOne(p) ? tryParents(p) : BAD;
  }

  public int reaches(int g) {
    if (!county.hasGate(g)) {
      return BAD;
    }
    trial.copyFrom(county);
    kin.measure(trial);
    int bits = 0;
    for (int reach = 0; reach <= MOST_REACH; reach++) {
      trial.reach[g] = reach;
      course.open(trial, kin);
      if (witness.agrees(course.runPlan(trial, 0))) {
        bits |= 1 << reach;
      }
    }
    return bits;
  }

  public int look(int p, int what) {
    if (!county.hasOne(p) || !isZeroOrOne(what)) {
      return BAD;
    }
    int fitting = tryParents(p);
    int fewest = Integer.bitCount(fitting);
    int where = NONE;
    for (int i = 0; i < county.acts; i++) {
      int left = leftAtWorst(fitting, i);
      if (left < fewest) {
        fewest = left;
        where = i;
      }
    }
    return what == 0 || where == NONE ? where : fewest;
  }

  // ---- by a seed

  public int drift(int seed, int n, int what) {
    if (n < 1 || n > MOST_DRIFT || !isZeroOrOne(what)) {
      return BAD;
    }
    if (county.people <= 0 || county.gates <= 0) {
      return STATE;
    }
    openGates(county);
    course.restart(county);
    int now = seed;
    int through = 0;
    for (int i = 0; i < n; i++) {
      now = nextSeed(now);
      int p = drawn(now) % county.people;
      now = nextSeed(now);
      int g = drawn(now) % county.gates;
      if (course.admit(p, g)) {
        through++;
      }
    }
    return what == 0 ? through : course.lasts[0];
  }

  // ---- images, sheets

  public int keep(int k) {
    if (!isZeroOrOne(k)) {
      return BAD;
    }
    int was = imageKept[k] ? 1 : 0;
    imageOf(k).copyFrom(county);
    imageKept[k] = true;
    return was;
  }

  public int back(int k) {
    if (!isZeroOrOne(k)) {
      return BAD;
    }
    if (!imageKept[k]) {
      return STATE;
    }
    county.copyFrom(imageOf(k));
    return county.wentInAll();
  }

  public int sheet(int k, int lane, int n) {
    if (!Sheets.isSheet(k) || !Sheets.isLane(lane) || n > MOST_CELLS) {
      return BAD;
    }
    if (n < 0) {
      return -10 - SHEET_SIZE;
    }
    sheets.renew(k, lane, n);
    return 1;
  }

  public int lay(int k, int i, int v) {
    if (!Sheets.isSheet(k)) {
      return BAD;
    }
    int fault = sheets.faultAt(k, sheets.lanes[k], i);
    if (fault != 0) {
      return -10 - fault;
    }
    sheets.put(k, i, v);
    return 1;
  }

  public int read(int k, int lane, int f, int n) {
    if (!Sheets.isSheet(k) || !Sheets.isLane(lane) || n < 0 || n > MOST_READ) {
      return BAD;
    }
    int whole = 0;
    int fault = 0;
    for (int i = 0; i < n && fault == 0; i++) {
      int at = f + 2 * i;
      fault = sheets.faultOfTwo(k, lane, at);
      if (fault == 0) {
        if (!county.hasOne(sheets.cellAt(k, at)) || !county.hasGate(sheets.cellAt(k, at + 1))) {
          return -20 - i;
        }
        whole++;
      }
    }
    tornFault = fault;
    goFromSheet(k, f, whole);
    return whole;
  }

  public int torn() {
    return tornFault;
  }

  public int count(int what) {
    switch (what) {
      case 0:
        return witness.size;
      case 1:
        return (imageKept[0] ? 1 : 0) + (imageKept[1] ? 1 : 0);
      case 2:
        return parser.tape.length;
      case 3:
        return sheets.sizes[0];
      case 4:
        return county.parentless();
      default:
        return BAD;
    }
  }

  // ---- parts of the calls

  private static boolean isZeroOrOne(int what) {
    return what == 0 || what == 1;
  }

  private static boolean hasBit(int bits, int i) {
    return (bits >> i & 1) != 0;
  }

  private static int tieOf(int kind) {
    switch (kind) {
      case 0:
        return 1;
      case 1:
        return 2;
      case 2:
        return 0;
      default:
        return 4;
    }
  }

  private int addPair(Pairs pairs, int p, int q) {
    if (!county.hasOne(p) || !county.hasOne(q) || p == q) {
      return BAD;
    }
    return pairs.add(p, q) ? pairs.size : FULL;
  }

  private void openGates(County c) {
    kin.measure(c);
    course.open(c, kin);
  }

  private boolean goForGood(int p, int g) {
    course.restart(county);
    if (!course.admit(p, g)) {
      return false;
    }
    county.letThrough(p, g);
    return true;
  }

  private int firstStopped(int through) {
    for (int i = 0; i < county.acts; i++) {
      if (!hasBit(through, i)) {
        return i;
      }
    }
    return NONE;
  }

  private void chartLines(County c, int g) {
    kin.measure(c);
    lines.place(c, kin, g);
    lines.chart();
  }

  private int mostIfMarried(int p, int q, int g) {
    trial.copyFrom(county);
    trial.marriages.add(p, q);
    chartLines(trial, g);
    return lines.most();
  }

  /** Out of 10 to the power of PEOPLE, how often just these stay away. */
  private long weightOf(int away, int v) {
    long weight = 1;
    for (int p = 0; p < county.people; p++) {
      weight *= hasBit(away, p) ? v : TEN - v;
    }
    return weight;
  }

  private long partOf(long top, int what) {
    long bottom = 1;
    for (int p = 0; p < county.people; p++) {
      bottom *= TEN;
    }
    long common = commonDivisor(top, bottom);
    if (common <= 0) {
      return BAD;
    }
    return what == 0 ? top / common : bottom / common;
  }

  private static long commonDivisor(long a, long b) {
    long greater = a;
    long lesser = b;
    for (int i = 0; i < 1000 && lesser != 0; i++) {
      long rest = greater % lesser;
      greater = lesser;
      lesser = rest;
    }
    return greater;
  }

  /** The PARENTS of a ONE by which all is as SEEN; what THE PLAN comes to by each is kept. */
  private int tryParents(int p) {
    trial.copyFrom(county);
    int bits = 0;
    for (int parent = 0; parent <= NOBODY; parent++) {
      if (parent < p || parent == NOBODY) {
        trial.parentOf[p] = parent == NOBODY ? NONE : parent;
        openGates(trial);
        outcomes[parent] = course.runPlan(trial, 0);
        if (witness.agrees(outcomes[parent])) {
          bits |= 1 << parent;
        }
      }
    }
    return bits;
  }

  private int leftAtWorst(int fitting, int i) {
    int through = 0;
    int stopped = 0;
    for (int parent = 0; parent <= NOBODY; parent++) {
      if (hasBit(fitting, parent)) {
        if (hasBit(outcomes[parent], i)) {
          through++;
        } else {
          stopped++;
        }
      }
    }
    return Math.max(through, stopped);
  }

  private static int nextSeed(int seed) {
    return seed * 1103515245 + 12345;
  }

  private static int drawn(int seed) {
    return seed >> 16 & 0x7fff;
  }

  private County imageOf(int k) {
    return k == 0 ? firstImage : secondImage;
  }

  private void goFromSheet(int k, int from, int many) {
    openGates(county);
    for (int i = 0; i < many; i++) {
      int p = sheets.cellAt(k, from + 2 * i);
      int g = sheets.cellAt(k, from + 2 * i + 1);
      if (county.hasOne(p) && county.hasGate(g)) {
        goForGood(p, g);
      }
    }
  }

  /** MARRIAGES or FEUDS, in the order in which they were told. */
  private static final class Pairs {
    final int[] firsts = new int[MOST_PAIRS];
    final int[] seconds = new int[MOST_PAIRS];
    int size;

    boolean has(int i) {
      return i >= 0 && i < size;
    }

    boolean isFull() {
      return size >= MOST_PAIRS;
    }

    boolean add(int p, int q) {
      if (isFull()) {
        return false;
      }
      firsts[size] = p;
      seconds[size] = q;
      size++;
      return true;
    }

    void drop(int i) {
      if (!has(i)) {
        return;
      }
      for (int k = i; k + 1 < size; k++) {
        firsts[k] = firsts[k + 1];
        seconds[k] = seconds[k + 1];
      }
      size--;
    }

    boolean areBelow(int people) {
      for (int i = 0; i < size; i++) {
        if (firsts[i] >= people || seconds[i] >= people) {
          return false;
        }
      }
      return true;
    }

    void copyFrom(Pairs other) {
      System.arraycopy(other.firsts, 0, firsts, 0, MOST_PAIRS);
      System.arraycopy(other.seconds, 0, seconds, 0, MOST_PAIRS);
      size = other.size;
    }
  }

  /** What a text tells, and what an IMAGE keeps: PEOPLE, MARRIAGES, FEUDS, GATES, THE PLAN. */
  private static final class County {
    final int[] kinds = new int[MOST_PEOPLE];
    /** NONE, where there is no PARENT. */
    final int[] parentOf = new int[MOST_PEOPLE];
    final Pairs marriages = new Pairs();
    final Pairs feuds = new Pairs();
    final int[] reach = new int[MOST_GATES];
    /** NONE, where it is nobody. */
    final int[] last = new int[MOST_GATES];
    final int[] went = new int[MOST_GATES];
    final int[] planned = new int[MOST_ACTS];
    int people;
    int gates;
    int acts;

    void clear() {
      people = 0;
      marriages.size = 0;
      feuds.size = 0;
      gates = 0;
      acts = 0;
    }

    void copyFrom(County other) {
      System.arraycopy(other.kinds, 0, kinds, 0, MOST_PEOPLE);
      System.arraycopy(other.parentOf, 0, parentOf, 0, MOST_PEOPLE);
      marriages.copyFrom(other.marriages);
      feuds.copyFrom(other.feuds);
      System.arraycopy(other.reach, 0, reach, 0, MOST_GATES);
      System.arraycopy(other.last, 0, last, 0, MOST_GATES);
      System.arraycopy(other.went, 0, went, 0, MOST_GATES);
      System.arraycopy(other.planned, 0, planned, 0, MOST_ACTS);
      people = other.people;
      gates = other.gates;
      acts = other.acts;
    }

    boolean hasOne(int p) {
      return p >= 0 && p < people;
    }

    boolean hasGate(int g) {
      return g >= 0 && g < gates;
    }

    Pairs pairsOf(int kind) {
      return kind == 0 ? marriages : feuds;
    }

    void addOne(int kind, int parent) {
      if (people < MOST_PEOPLE) {
        kinds[people] = kind;
        parentOf[people] = parent;
        people++;
      }
    }

    void addGate(int itsReach, int itsLast) {
      if (gates < MOST_GATES) {
        reach[gates] = itsReach;
        last[gates] = itsLast;
        went[gates] = 0;
        gates++;
      }
    }

    void addAct(int act) {
      if (acts < MOST_ACTS) {
        planned[acts] = act;
        acts++;
      }
    }

    void letThrough(int p, int g) {
      if (hasOne(p) && hasGate(g)) {
        last[g] = p;
        went[g] = Math.min(MOST_WENT, went[g] + 1);
      }
    }

    int wentInAll() {
      int sum = 0;
      for (int g = 0; g < gates; g++) {
        sum += went[g];
      }
      return sum;
    }

    int parentless() {
      int many = 0;
      for (int p = 0; p < people; p++) {
        if (parentOf[p] == NONE) {
          many++;
        }
      }
      return many;
    }

    int childrenOf(int p) {
      int bits = 0;
      for (int child = 0; child < people; child++) {
        if (parentOf[child] == p) {
          bits |= 1 << child;
        }
      }
      return bits;
    }

    int commonForebear(int p, int q) {
      int bits = forebearsOf(p) & forebearsOf(q);
      for (int x = people - 1; x >= 0; x--) {
        if (hasBit(bits, x)) {
          return x;
        }
      }
      return NONE;
    }

    private int forebearsOf(int p) {
      int bits = 0;
      int x = p;
      for (int i = 0; i < MOST_PEOPLE && hasOne(x); i++) {
        bits |= 1 << x;
        x = parentOf[x];
      }
      return bits;
    }

    /** Whether all ONES and GATES that were told of are there. */
    boolean isWhole() {
      if (!marriages.areBelow(people) || !feuds.areBelow(people)) {
        return false;
      }
      for (int g = 0; g < gates; g++) {
        if (last[g] != NONE && !hasOne(last[g])) {
          return false;
        }
      }
      for (int i = 0; i < acts; i++) {
        if (!hasOne(planned[i] / TEN) || !hasGate(planned[i] % TEN)) {
          return false;
        }
      }
      return true;
    }
  }

  /** DEGREES and FEUDS of a county, measured anew when they are needed. */
  private static final class Kin {
    private final int[] degrees = new int[MOST_PEOPLE * MOST_PEOPLE];
    private final int[] foes = new int[MOST_PEOPLE];
    private int people;

    void measure(County c) {
      people = c.people;
      for (int p = 0; p < people; p++) {
        foes[p] = 0;
        for (int q = 0; q < people; q++) {
          degrees[p * MOST_PEOPLE + q] = p == q ? 0 : UNLINKED;
        }
      }
      linkAll(c);
      shortenAll();
    }

    private void linkAll(County c) {
      for (int p = 0; p < people; p++) {
        if (c.hasOne(c.parentOf[p])) {
          join(p, c.parentOf[p], tieOf(c.kinds[p]));
        }
      }
      for (int i = 0; i < c.marriages.size; i++) {
        join(c.marriages.firsts[i], c.marriages.seconds[i], 1);
      }
      for (int i = 0; i < c.feuds.size; i++) {
        int p = c.feuds.firsts[i];
        int q = c.feuds.seconds[i];
        foes[p] |= 1 << q;
        foes[q] |= 1 << p;
      }
    }

    private void join(int p, int q, int far) {
      if (far < degrees[p * MOST_PEOPLE + q]) {
        degrees[p * MOST_PEOPLE + q] = far;
        degrees[q * MOST_PEOPLE + p] = far;
      }
    }

    private void shortenAll() {
      for (int by = 0; by < people; by++) {
        for (int p = 0; p < people; p++) {
          int there = degrees[p * MOST_PEOPLE + by];
          for (int q = 0; q < people && there < UNLINKED; q++) {
            int sum = there + degrees[by * MOST_PEOPLE + q];
            if (sum < degrees[p * MOST_PEOPLE + q]) {
              degrees[p * MOST_PEOPLE + q] = sum;
            }
          }
        }
      }
    }

    int between(int p, int q) {
      return degrees[p * MOST_PEOPLE + q];
    }

    int linkedWith(int p) {
      return within(p, UNLINKED - 1);
    }

    /** Whom a GATE with that REACH lets THROUGH when that LAST went, or nobody yet. */
    int letBehind(int last, int reach) {
      if (last < 0 || last >= people) {
        return (1 << people) - 1;
      }
      return within(last, reach) & ~foes[last];
    }

    private int within(int p, int reach) {
      int bits = 0;
      for (int q = 0; q < people; q++) {
        if (degrees[p * MOST_PEOPLE + q] <= reach) {
          bits |= 1 << q;
        }
      }
      return bits;
    }
  }

  /** A going by itself: LAST of each GATE moves here, and the county stays as it is. */
  private static final class Course {
    private final int[] letting = new int[MOST_GATES * (MOST_PEOPLE + 1)];
    final int[] lasts = new int[MOST_GATES];
    /** ONES who came through some GATE, as bits. */
    int came;

    void open(County c, Kin kin) {
      for (int g = 0; g < c.gates; g++) {
        for (int last = 0; last <= NOBODY; last++) {
          letting[g * (MOST_PEOPLE + 1) + last] = kin.letBehind(last, c.reach[g]);
        }
      }
    }

    void restart(County c) {
      came = 0;
      for (int g = 0; g < c.gates; g++) {
        lasts[g] = c.last[g];
      }
    }

    boolean admit(int p, int g) {
      int last = lasts[g] == NONE ? NOBODY : lasts[g];
      if (!hasBit(letting[g * (MOST_PEOPLE + 1) + last], p)) {
        return false;
      }
      lasts[g] = p;
      came |= 1 << p;
      return true;
    }

    /** The ACTS that are let THROUGH, as bits; those of whoever is away are passed over. */
    int runPlan(County c, int away) {
      restart(c);
      int through = 0;
      for (int i = 0; i < c.acts; i++) {
        int p = c.planned[i] / TEN;
        if (!hasBit(away, p) && admit(p, c.planned[i] % TEN)) {
          through |= 1 << i;
        }
      }
      return through;
    }
  }

  /**
   * The LINES at one GATE. A row for the ONE who went last and the set of those who are still to go
   * has how many can follow and in how many ways; the row NOBODY stands for the GATE as it is now.
   */
  private static final class Lines {
    private static final int WIDTH = MOST_PEOPLE + 1;

    private final int[] behind = new int[WIDTH];
    private final int[] longest = new int[(1 << MOST_PEOPLE) * WIDTH];
    private final int[] ways = new int[(1 << MOST_PEOPLE) * WIDTH];
    /** Who must be sent ahead, if that ONE went last, so that the ONE asked for can go. */
    final int[] needed = new int[WIDTH];
    private int people;

    void place(County c, Kin kin, int g) {
      people = c.people;
      for (int p = 0; p < people; p++) {
        behind[p] = kin.letBehind(p, c.reach[g]);
      }
      behind[NOBODY] = kin.letBehind(c.last[g], c.reach[g]);
    }

    void chart() {
      for (int left = 0; left <= everybody(); left++) {
        for (int p = 0; p < people; p++) {
          if (!hasBit(left, p)) {
            chartRow(left, p);
          }
        }
      }
      chartRow(everybody(), NOBODY);
    }

    private int everybody() {
      return (1 << people) - 1;
    }

    private void chartRow(int left, int last) {
      int most = 0;
      int many = 1;
      int next = left & behind[last];
      for (int p = 0; p < people; p++) {
        if (hasBit(next, p)) {
          int row = (left & ~(1 << p)) * WIDTH + p;
          int then = longest[row] + 1;
          if (then > most) {
            most = then;
            many = ways[row];
          } else if (then == most) {
            many += ways[row];
          }
        }
      }
      longest[left * WIDTH + last] = most;
      ways[left * WIDTH + last] = many;
    }

    int most() {
      return longest[everybody() * WIDTH + NOBODY];
    }

    int waysOfMost() {
      return ways[everybody() * WIDTH + NOBODY];
    }

    /** The i-th ONE of the first of the longest LINES. */
    int inFirst(int i) {
      if (i < 0 || i >= most()) {
        return NONE;
      }
      int left = everybody();
      int last = NOBODY;
      for (int k = 0; k <= i && last != NONE; k++) {
        last = firstThatGoesOn(left, last);
        if (last != NONE) {
          left &= ~(1 << last);
        }
      }
      return last;
    }

    private int firstThatGoesOn(int left, int last) {
      int due = longest[left * WIDTH + last] - 1;
      int next = left & behind[last];
      for (int p = 0; p < people; p++) {
        if (hasBit(next, p) && longest[(left & ~(1 << p)) * WIDTH + p] == due) {
          return p;
        }
      }
      return NONE;
    }

    void countNeeded(int goer) {
      for (int last = 0; last < WIDTH; last++) {
        needed[last] = hasBit(behind[last], goer) ? 0 : UNLINKED;
      }
      for (int round = 0; round < people; round++) {
        for (int last = 0; last < people; last++) {
          lessenNeeded(last, goer);
        }
      }
      lessenNeeded(NOBODY, goer);
    }

    private void lessenNeeded(int last, int goer) {
      for (int p = 0; p < people; p++) {
        if (p != goer && hasBit(behind[last], p)) {
          needed[last] = Math.min(needed[last], needed[p] + 1);
        }
      }
    }

    /** The i-th of the first row of fewest who are sent ahead of that ONE. */
    int sentAhead(int goer, int i) {
      if (i < 0 || i >= needed[NOBODY]) {
        return NONE;
      }
      int last = NOBODY;
      for (int k = 0; k <= i && last != NONE; k++) {
        last = firstThatBringsNearer(last, goer);
      }
      return last;
    }

    private int firstThatBringsNearer(int last, int goer) {
      for (int p = 0; p < people; p++) {
        if (p != goer && hasBit(behind[last], p) && needed[p] == needed[last] - 1) {
          return p;
        }
      }
      return NONE;
    }
  }

  /** What was SEEN, in order. */
  private static final class Witness {
    private final int[] places = new int[MOST_SEEN];
    private final boolean[] through = new boolean[MOST_SEEN];
    int size;

    boolean add(int i, boolean is) {
      if (size >= MOST_SEEN) {
        return false;
      }
      places[size] = i;
      through[size] = is;
      size++;
      return true;
    }

    boolean agrees(int bits) {
      for (int k = 0; k < size; k++) {
        if (hasBit(bits, places[k]) != through[k]) {
          return false;
        }
      }
      return true;
    }
  }

  /** The rows of CELLS; the FAULTS that the machine would find are looked for ahead of each use. */
  private static final class Sheets {
    private final int[] cells = new int[MOST_SHEETS * MOST_CELLS];
    final int[] lanes = new int[MOST_SHEETS];
    /** NONE, where a SHEET has nothing. */
    final int[] sizes = new int[MOST_SHEETS];

    Sheets() {
      for (int k = 0; k < MOST_SHEETS; k++) {
        sizes[k] = NONE;
      }
    }

    static boolean isSheet(int k) {
      return k >= 0 && k < MOST_SHEETS;
    }

    static boolean isLane(int lane) {
      return lane >= 0 && lane <= MOST_LANE;
    }

    void renew(int k, int lane, int n) {
      for (int i = 0; i < MOST_CELLS; i++) {
        cells[k * MOST_CELLS + i] = 0;
      }
      lanes[k] = lane;
      sizes[k] = n;
    }

    int faultAt(int k, int lane, int i) {
      if (sizes[k] == NONE) {
        return SHEET_NULL;
      }
      if (lanes[k] != lane) {
        return SHEET_CAST;
      }
      return i >= 0 && i < sizes[k] ? 0 : SHEET_INDEX;
    }

    int faultOfTwo(int k, int lane, int i) {
      int fault = faultAt(k, lane, i);
      return fault != 0 ? fault : faultAt(k, lane, i + 1);
    }

    void put(int k, int i, int v) {
      int kept = v;
      if (lanes[k] == 0) {
        kept = (byte) v;
      } else if (lanes[k] == 1) {
        kept = (short) v;
      }
      cells[k * MOST_CELLS + i] = kept;
    }

    int cellAt(int k, int i) {
      return i >= 0 && i < sizes[k] ? cells[k * MOST_CELLS + i] : NONE;
    }
  }

  /** THE TAPE, and the TOKEN that was read of it last. */
  private static final class Tape {
    private final int[] bytes = new int[MOST_BYTES];
    int length;
    private int at;
    int token;
    /** Where the TOKEN begins. */
    int place;
    /** What a NUMBER is. */
    int value;

    boolean put(int c) {
      if (length >= MOST_BYTES) {
        return false;
      }
      bytes[length] = c;
      length++;
      return true;
    }

    void rewind() {
      at = 0;
    }

    /** One method without calls, since the way to it is deep already. */
    void readToken() {
      while (at < length && bytes[at] == ' ') {
        at++;
      }
      place = at;
      value = 0;
      int c = at < length ? bytes[at] : -1;
      if (c < 0) {
        token = END;
      } else if (c >= 'a' && c <= 'z') {
        while (at < length && bytes[at] >= 'a' && bytes[at] <= 'z') {
          at++;
        }
        token = NAME;
      } else if (c >= '0' && c <= '9') {
        while (at < length && bytes[at] >= '0' && bytes[at] <= '9') {
          value = value * TEN + bytes[at] - '0';
          at++;
        }
        token = at - place <= 2 ? NUMBER : WRONG;
      } else {
        at++;
        token = c == ';' ? SEMICOLON : WRONG;
      }
    }

    /** Which line the NAME begins; NONE, if it begins none. */
    int whichName() {
      if (isName("plain")) {
        return 0;
      }
      if (isName("adopted")) {
        return 1;
      }
      if (isName("bastard")) {
        return 2;
      }
      if (isName("estrange")) {
        return 3;
      }
      if (isName("marry")) {
        return WORD_MARRY;
      }
      if (isName("feud")) {
        return WORD_FEUD;
      }
      if (isName("gate")) {
        return WORD_GATE;
      }
      return isName("plan") ? WORD_PLAN : NONE;
    }

    private boolean isName(String name) {
      if (at - place != name.length()) {
        return false;
      }
      for (int i = 0; i < name.length(); i++) {
        if (bytes[place + i] != name.charAt(i)) {
          return false;
        }
      }
      return true;
    }
  }

  /** Reads THE TAPE into a draft of a county, up to the first FAULT. */
  private static final class Parser {
    final Tape tape = new Tape();
    final County draft = new County();
    int found;
    int foundAt;
    int lineCount;
    private boolean planTold;

    void readText() {
      draft.clear();
      found = 0;
      lineCount = 0;
      planTold = false;
      tape.rewind();
      step();
      for (int n = 0; n < MOST_BYTES && found == 0 && tape.token != END; n++) {
        readLine();
        lineCount++;
        step();
      }
      if (found == 0 && !draft.isWhole()) {
        fail(FAULT_MISSING, tape.length);
      }
    }

    /** The first FAULT that is met stays. */
    private void fail(int fault, int place) {
      if (found == 0) {
        found = fault;
        foundAt = place;
      }
    }

    private void step() {
      if (found == 0) {
        tape.readToken();
        if (tape.token == WRONG) {
          fail(FAULT_TOKEN, tape.place);
        }
      }
    }

    private boolean atNumber() {
      return found == 0 && tape.token == NUMBER;
    }

    private void readLine() {
      int word = tape.token == NAME ? tape.whichName() : NONE;
      switch (word) {
        case WORD_MARRY:
          readPair(draft.marriages);
          break;
        case WORD_FEUD:
          readPair(draft.feuds);
          break;
        case WORD_GATE:
          readGate();
          break;
        case WORD_PLAN:
          readPlan();
          break;
        case NONE:
          fail(FAULT_PLACE, tape.place);
          break;
        default:
          readOne(word);
      }
      if (found == 0 && tape.token != SEMICOLON) {
        fail(FAULT_PLACE, tape.place);
      }
    }

    private void takeName(boolean tooMany) {
      if (tooMany) {
        fail(FAULT_MANY, tape.place);
      }
      step();
    }

    private int takeNumber(int most) {
      if (found == 0 && tape.token != NUMBER) {
        fail(FAULT_PLACE, tape.place);
      }
      if (found == 0 && tape.value > most) {
        fail(FAULT_BOUNDS, tape.place);
      }
      int value = tape.value;
      step();
      return value;
    }

    private void readOne(int kind) {
      takeName(draft.people >= MOST_PEOPLE);
      int parent = atNumber() ? takeNumber(draft.people - 1) : NONE;
      if (found == 0) {
        draft.addOne(kind, parent);
      }
    }

    private void readPair(Pairs pairs) {
      takeName(pairs.isFull());
      int p = takeNumber(MOST_PEOPLE - 1);
      if (atNumber() && tape.value == p) {
        fail(FAULT_BOUNDS, tape.place);
      }
      int q = takeNumber(MOST_PEOPLE - 1);
      if (found == 0) {
        pairs.add(p, q);
      }
    }

    private void readGate() {
      takeName(draft.gates >= MOST_GATES);
      int reach = takeNumber(MOST_REACH);
      int last = atNumber() ? takeNumber(MOST_PEOPLE - 1) : NONE;
      if (found == 0) {
        draft.addGate(reach, last);
      }
    }

    private void readPlan() {
      if (planTold) {
        fail(FAULT_AGAIN, tape.place);
      }
      planTold = true;
      step();
      for (int n = 0; n <= MOST_ACTS && atNumber(); n++) {
        readAct();
      }
    }

    private void readAct() {
      int act = tape.value;
      if (draft.acts >= MOST_ACTS) {
        fail(FAULT_MANY, tape.place);
      } else if (act / TEN >= MOST_PEOPLE || act % TEN >= MOST_GATES) {
        fail(FAULT_BOUNDS, tape.place);
      } else {
        draft.addAct(act);
        step();
      }
    }
  }
}
