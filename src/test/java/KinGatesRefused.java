import java.util.ArrayList;
import java.util.List;

/**
 * What is refused changes nothing (but THE TAPE, as told), and what only asks changes nothing: each
 * such call is made on an object in a known state, and all that later calls show is then the same
 * as on an object of that state without the call. No object is used for more than 512 calls.
 */
public final class KinGatesRefused {
  private static final int BAD = -1, STATE = -2, FULL = -3, NONE = -4;
  private static final int LOW = Integer.MIN_VALUE, HIGH = Integer.MAX_VALUE;

  private interface Call {
    long on(KinGates x);
  }

  private interface Start {
    KinGates make();
  }

  private interface Probe {
    void ask(KinGates x, List<Long> shown);
  }

  private record Refused(String name, long want, Call call) {
  }

  private static int wrong = 0;
  private static int made = 0;

  private static void put(KinGates x, String text) {
    for (int i = 0; i < text.length(); i++) {
      x.feed(text.charAt(i));
    }
  }

  // ---- the states

  /** What is SEEN as it is leaves some PARENTS and REACHES over, so that another SEEN would show. */
  private static void seeAsItIs(KinGates x, int i) {
    x.see(i, (x.runs(0) >> i & 1) == 1);
  }

  /** Some of everything: 5 ONES, 2 GATES, 1 MARRIAGE, 1 FEUD, 6 ACTS, 2 SEEN, IMAGE 0, a FAULT each. */
  private static KinGates house() {
    KinGates x = new KinGates();
    put(x, "plain;plain 0;adopted 0;bastard 1;estrange 2;marry 3 4;feud 0 3;gate 2;gate 1 3;"
        + "plan 0 10 30 31 20 41;");
    x.text();
    x.keep(0);
    x.go(1, 0);
    x.alter(4, 0, 1);
    seeAsItIs(x, 0);
    seeAsItIs(x, 4);
    x.sheet(0, 1, 6);
    x.lay(0, 1, 1);
    x.lay(0, 2, 4);
    x.sheet(2, 0, 4);
    x.lay(2, 2, 9);
    put(x, "A");
    x.text();
    x.read(0, 1, 6, 1);
    put(x, "plain");
    return x;
  }

  /** As much of everything as there may be; every SHEET is of 40 CELLS. */
  private static KinGates full() {
    KinGates x = new KinGates();
    put(x, "plain;plain 0;adopted 1;bastard 2;estrange 3;plain;gate 2;gate 3 1;gate 9 5;"
        + "plan 0 10 20 31 42 52 1 2;");
    x.text();
    x.keep(0);
    for (int i = 0; i < 3; i++) {
      x.marry(i, 5);
      x.feud(i, 4 - i == i ? 3 : 4 - i);
      x.go(i, i);
    }
    x.keep(1);
    x.set(2, 1, 3);
    for (int i = 2; i < 8; i++) {
      seeAsItIs(x, i);
    }
    for (int k = 0; k < 4; k++) {
      x.sheet(k, k % 3, 40);
      x.lay(k, 0, k);
      x.lay(k, 3, k);
    }
    put(x, "plain;" + " ".repeat(154));
    return x;
  }

  /** The states are worth nothing if they are not what they are said to be. */
  private static void statesStand() {
    int[] some = {5, 1, 1, 2, 6, 1};
    int[] most = {6, 3, 3, 3, 8, 3};
    int[] someCounts = {2, 1, 5, 6, 1};
    int[] mostCounts = {6, 2, 160, 40, 2};
    KinGates house = house();
    KinGates full = full();
    for (int i = 0; i <= 5; i++) {
      stands("rule(" + i + ")", house.rule(i), some[i]);
      stands("rule(" + i + ") when full", full.rule(i), most[i]);
    }
    for (int i = 0; i <= 4; i++) {
      stands("count(" + i + ")", house.count(i), someCounts[i]);
      stands("count(" + i + ") when full", full.count(i), mostCounts[i]);
    }
    stands("reaches(0) has some", house.reaches(0) > 0 ? 1 : 0, 1);
    stands("reaches(0) when full has some", full.reaches(0) > 0 ? 1 : 0, 1);
    stands("torn()", house.torn(), 2);
    stands("fault()", house.fault(), 1);
  }

  private static void stands(String name, long got, long want) {
    if (got != want) {
      wrong++;
      System.out.println("a state: " + name + " answered " + got + ", due is " + want);
    }
  }

  // ---- all that later calls show

  private static void showWhatThereIs(KinGates x, List<Long> shown) {
    for (int i = 0; i <= 5; i++) {
      shown.add((long) x.rule(i));
      for (int what = 0; what <= 4; what++) {
        shown.add((long) x.one(i, what));
      }
    }
    for (int i = 0; i < 3; i++) {
      shown.add((long) x.pair(0, i));
      shown.add((long) x.pair(1, i));
      for (int what = 0; what <= 3; what++) {
        shown.add((long) x.gate(i, what));
      }
    }
    for (int i = 0; i < 8; i++) {
      shown.add((long) x.act(i));
    }
    for (int what : new int[] {0, 1, 3, 4}) {
      shown.add((long) x.count(what));
    }
    shown.add((long) x.torn());
  }

  private static void showKinship(KinGates x, List<Long> shown) {
    for (int p = 0; p < 6; p++) {
      for (int q = 0; q < 6; q++) {
        shown.add((long) x.degree(p, q));
        shown.add((long) x.forebear(p, q));
      }
    }
  }

  private static void showGoing(KinGates x, List<Long> shown) {
    for (int what = 0; what <= 3; what++) {
      shown.add((long) x.runs(what));
    }
    for (int g = 0; g < 3; g++) {
      shown.add((long) x.ahead(g));
      shown.add((long) x.line(g, 0));
      shown.add((long) x.line(g, 1));
      shown.add((long) x.match(g, 0));
      shown.add((long) x.match(g, 1));
      for (int i = 0; i < 6; i++) {
        shown.add((long) x.line(g, 10 + i));
        shown.add((long) x.send(i, g, 0));
        shown.add((long) x.send(i, g, 10));
      }
    }
    shown.add((long) x.widen());
    shown.add((long) x.apart(0));
    shown.add((long) x.apart(1));
  }

  private static void showGuesses(KinGates x, List<Long> shown) {
    shown.add(x.mean(3, 0));
    shown.add(x.mean(3, 1));
    for (int p = 0; p < 6; p++) {
      shown.add(x.luck(3, p, 0));
      shown.add((long) x.parents(p));
      shown.add((long) x.look(p, 0));
      shown.add((long) x.look(p, 1));
      shown.add((long) x.drift(p, 10, 0));
      shown.add((long) x.drift(p, 10, 1));
    }
    for (int g = 0; g < 3; g++) {
      shown.add((long) x.reaches(g));
    }
  }

  /** Each that was SEEN is let go alone, the latest first. */
  private static void showSeen(KinGates x, List<Long> shown) {
    for (int n = x.count(0); n > 0; n--) {
      shown.add((long) x.parents(4));
      for (int g = 0; g < 3; g++) {
        shown.add((long) x.reaches(g));
      }
      shown.add((long) x.forget(n - 1));
    }
  }

  private static void showImage(KinGates x, int k, List<Long> shown) {
    shown.add((long) x.back(k));
    showWhatThereIs(x, shown);
  }

  private static void showCells(KinGates x, List<Long> shown) {
    for (int k = 0; k < 4; k++) {
      for (int lane = 0; lane <= 2; lane++) {
        for (int f = 0; f <= 4; f += 2) {
          shown.add((long) x.read(k, lane, f, 1));
          shown.add((long) x.torn());
        }
        shown.add((long) x.gate(0, 1));
        shown.add((long) x.gate(1, 1));
        shown.add((long) x.rule(5));
      }
    }
  }

  private static void showSizes(KinGates x, List<Long> shown) {
    for (int k = 0; k < 4; k++) {
      for (int i : new int[] {-1, 0, 1, 3, 4, 5, 6, 39, 40}) {
        shown.add((long) x.lay(k, i, 0));
      }
    }
  }

  private static void showTape(KinGates x, String more, List<Long> shown) {
    shown.add((long) x.fault());
    shown.add((long) x.count(2));
    put(x, more);
    shown.add((long) x.text());
    shown.add((long) x.fault());
    showWhatThereIs(x, shown);
  }

  private static final List<Probe> OF_ALL_BUT_THE_TAPE = List.of(
      KinGatesRefused::showWhatThereIs, KinGatesRefused::showKinship, KinGatesRefused::showGoing,
      KinGatesRefused::showGuesses, KinGatesRefused::showSeen, (x, shown) -> showImage(x, 0, shown),
      (x, shown) -> showImage(x, 1, shown), KinGatesRefused::showCells, KinGatesRefused::showSizes);

  private static final List<Probe> OF_THE_TAPE = List.of(
      (x, shown) -> showTape(x, "", shown), (x, shown) -> showTape(x, ";", shown));

  private static void sameBehind(String state, Start start, List<Refused> calls, List<Probe> probes) {
    for (Probe probe : probes) {
      List<Long> due = new ArrayList<>();
      probe.ask(start.make(), due);
      for (Refused r : calls) {
        KinGates x = start.make();
        long got = r.call.on(x);
        List<Long> shown = new ArrayList<>();
        probe.ask(x, shown);
        made++;
        if (r.want != HIGH && got != r.want) {
          wrong++;
          System.out.println(state + ": " + r.name + " answered " + got + ", due is " + r.want);
        }
        if (!shown.equals(due)) {
          wrong++;
          System.out.println(state + ": " + r.name + " changed what later calls show: " + shown
              + ", due is " + due);
        }
      }
    }
  }

  // ---- what is refused

  private static final class Calls {
    final List<Refused> all = new ArrayList<>();

    void bad(String name, Call call) {
      all.add(new Refused(name, BAD, call));
    }

    void due(long want, String name, Call call) {
      all.add(new Refused(name, want, call));
    }

    /** Whatever the answer is. */
    void asks(String name, Call call) {
      all.add(new Refused(name, HIGH, call));
    }
  }

  /** BAD in each of the states, whatever there is. */
  private static void everywhereBad(Calls c) {
    for (int v : new int[] {LOW, -5, -1, 128, HIGH}) {
      c.bad("feed(" + v + ")", x -> x.feed(v));
    }
    for (int v : new int[] {LOW, -5, -1, 6, 256, HIGH}) {
      c.bad("alter(" + v + ", 0, 1)", x -> x.alter(v, 0, 1));
      c.bad("alter(" + v + ", 1, NONE)", x -> x.alter(v, 1, NONE));
      c.bad("alter(2, " + v + ", 1)", x -> x.alter(2, v, 1));
      c.bad("alter(2, 0, " + v + ")", x -> x.alter(2, 0, v));
      c.bad("alter(2, 1, " + v + ")", x -> x.alter(2, 1, v));
      c.bad("marry(" + v + ", 0)", x -> x.marry(v, 0));
      c.bad("marry(0, " + v + ")", x -> x.marry(0, v));
      c.bad("feud(" + v + ", 0)", x -> x.feud(v, 0));
      c.bad("feud(0, " + v + ")", x -> x.feud(0, v));
      c.bad("undo(" + v + ", 0)", x -> x.undo(v, 0));
      c.bad("undo(0, " + v + ")", x -> x.undo(0, v));
      c.bad("undo(1, " + v + ")", x -> x.undo(1, v));
      c.bad("set(" + v + ", 0, 1)", x -> x.set(v, 0, 1));
      c.bad("set(" + v + ", 1, NONE)", x -> x.set(v, 1, NONE));
      c.bad("set(0, " + v + ", 1)", x -> x.set(0, v, 1));
      c.bad("set(0, 1, " + v + ")", x -> x.set(0, 1, v));
      c.bad("go(" + v + ", 0)", x -> x.go(v, 0));
      c.bad("go(0, " + v + ")", x -> x.go(0, v));
      c.bad("keep(" + v + ")", x -> x.keep(v));
      c.bad("back(" + v + ")", x -> x.back(v));
      c.bad("sheet(" + v + ", 0, 2)", x -> x.sheet(v, 0, 2));
      c.bad("sheet(0, " + v + ", 2)", x -> x.sheet(0, v, 2));
      c.bad("lay(" + v + ", 0, 1)", x -> x.lay(v, 0, 1));
      c.bad("read(" + v + ", 0, 0, 1)", x -> x.read(v, 0, 0, 1));
      c.bad("read(0, " + v + ", 0, 1)", x -> x.read(0, v, 0, 1));
      c.bad("drift(1, 1, " + v + ")", x -> x.drift(1, 1, v));
    }
    for (int v : new int[] {LOW, -5, -1, 41, 256, HIGH}) {
      c.due(v < 0 ? -14 : BAD, "sheet(0, 1, " + v + ")", x -> x.sheet(0, 1, v));
      c.bad("read(0, 1, 0, " + v + ")", x -> x.read(0, 1, 0, v));
      c.bad("see(" + v + ", true)", x -> x.see(v, true));
      c.bad("see(" + v + ", false)", x -> x.see(v, false));
      c.bad("forget(" + v + ")", x -> x.forget(v));
      c.bad("cut(" + v + ")", x -> x.cut(v));
    }
    for (int v : new int[] {LOW, -5, -1, 161, 256, HIGH}) {
      c.bad("end(" + v + ")", x -> x.end(v));
      c.bad("plan(" + v + ")", x -> x.plan(v));
      c.bad("set(0, 0, " + v + ")", x -> x.set(0, 0, v));
      c.bad("drift(1, " + v + ", 0)", x -> x.drift(1, v, 0));
    }
    c.bad("plan(60)", x -> x.plan(60));
    c.bad("plan(53)", x -> x.plan(53));
    c.bad("set(0, 0, 10)", x -> x.set(0, 0, 10));
    c.bad("set(0, 0, NONE)", x -> x.set(0, 0, NONE));
    c.bad("alter(0, 0, NONE)", x -> x.alter(0, 0, NONE));
    c.bad("alter(0, 0, 4)", x -> x.alter(0, 0, 4));
    c.bad("drift(1, 61, 0)", x -> x.drift(1, 61, 0));
    c.bad("see(8, true)", x -> x.see(8, true));
    c.bad("read(0, 1, 0, 21)", x -> x.read(0, 1, 0, 21));
    for (int p = 0; p < 6; p++) {
      int v = p;
      c.bad("marry, alike " + p, x -> x.marry(v, v));
      c.bad("feud, alike " + p, x -> x.feud(v, v));
      for (int q = p; q < 7; q++) {
        int parent = q;
        c.bad("alter(" + p + ", 1, " + q + ")", x -> x.alter(v, 1, parent));
      }
    }
  }

  private static void badInHouse(Calls c) {
    c.bad("end(6)", x -> x.end(6));
    c.bad("alter(5, 0, 0)", x -> x.alter(5, 0, 0));
    c.bad("alter(5, 1, 0)", x -> x.alter(5, 1, 0));
    c.bad("alter(4, 0, 4)", x -> x.alter(4, 0, 4));
    c.bad("marry(5, 0)", x -> x.marry(5, 0));
    c.bad("feud(0, 5)", x -> x.feud(0, 5));
    c.bad("undo(0, 1)", x -> x.undo(0, 1));
    c.bad("undo(1, 1)", x -> x.undo(1, 1));
    c.bad("set(2, 0, 1)", x -> x.set(2, 0, 1));
    c.bad("set(2, 1, 1)", x -> x.set(2, 1, 1));
    c.bad("set(1, 1, 5)", x -> x.set(1, 1, 5));
    c.bad("plan(50)", x -> x.plan(50));
    c.bad("plan(2)", x -> x.plan(2));
    c.bad("cut(7)", x -> x.cut(7));
    c.bad("go(5, 0)", x -> x.go(5, 0));
    c.bad("go(0, 2)", x -> x.go(0, 2));
    c.due(0, "go(2, 1), too far", x -> x.go(2, 1));
    c.due(0, "go(0, 1), at feud", x -> x.go(0, 1));
    c.bad("forget(3)", x -> x.forget(3));
    c.due(STATE, "back(1)", x -> x.back(1));
    c.due(-12, "lay(0, 6, 1)", x -> x.lay(0, 6, 1));
    c.due(-12, "lay(0, -1, 1)", x -> x.lay(0, -1, 1));
    c.due(-12, "lay(0, 40, 1)", x -> x.lay(0, 40, 1));
    c.due(-12, "lay(0, HIGH, 1)", x -> x.lay(0, HIGH, 1));
    c.due(-11, "lay(1, 0, 1)", x -> x.lay(1, 0, 1));
    c.due(-11, "lay(3, -1, 1)", x -> x.lay(3, -1, 1));
    c.due(-21, "read(2, 0, 0, 2)", x -> x.read(2, 0, 0, 2));
    c.due(-20, "read(2, 0, 2, 20)", x -> x.read(2, 0, 2, 20));
    c.due(-20, "read(0, 1, 1, 1)", x -> x.read(0, 1, 1, 1));
  }

  private static void fullOrBadInFull(Calls c) {
    c.due(FULL, "feed(59)", x -> x.feed(';'));
    c.due(FULL, "feed(32)", x -> x.feed(' '));
    c.due(FULL, "marry(0, 1)", x -> x.marry(0, 1));
    c.due(FULL, "feud(0, 1)", x -> x.feud(0, 1));
    c.due(FULL, "plan(11)", x -> x.plan(11));
    for (int i = 0; i < 8; i++) {
      int at = i;
      c.due(FULL, "see(" + i + ", false)", x -> x.see(at, false));
      c.due(FULL, "see(" + i + ", true)", x -> x.see(at, true));
    }
    c.due(FULL, "match(0, 0)", x -> x.match(0, 0));
    c.bad("undo(0, 3)", x -> x.undo(0, 3));
    c.bad("undo(1, 3)", x -> x.undo(1, 3));
    c.bad("set(3, 0, 1)", x -> x.set(3, 0, 1));
    c.bad("go(0, 3)", x -> x.go(0, 3));
    c.bad("plan(3)", x -> x.plan(3));
    c.bad("cut(9)", x -> x.cut(9));
    c.bad("forget(7)", x -> x.forget(7));
    c.due(-12, "lay(3, 40, 1)", x -> x.lay(3, 40, 1));
    c.due(-12, "lay(0, 40, 1)", x -> x.lay(0, 40, 1));
    c.due(-21, "read(3, 0, 0, 20)", x -> x.read(3, 0, 0, 20));
  }

  private static void badInNew(Calls c) {
    c.bad("end(1)", x -> x.end(1));
    c.bad("alter(0, 0, 1)", x -> x.alter(0, 0, 1));
    c.bad("alter(0, 1, NONE)", x -> x.alter(0, 1, NONE));
    c.bad("marry(0, 1)", x -> x.marry(0, 1));
    c.bad("feud(0, 1)", x -> x.feud(0, 1));
    c.bad("undo(0, 0)", x -> x.undo(0, 0));
    c.bad("undo(1, 0)", x -> x.undo(1, 0));
    c.bad("set(0, 0, 1)", x -> x.set(0, 0, 1));
    c.bad("set(0, 1, NONE)", x -> x.set(0, 1, NONE));
    c.bad("plan(0)", x -> x.plan(0));
    c.bad("cut(1)", x -> x.cut(1));
    c.bad("go(0, 0)", x -> x.go(0, 0));
    c.bad("forget(1)", x -> x.forget(1));
    c.due(STATE, "drift(1, 1, 0)", x -> x.drift(1, 1, 0));
    c.due(STATE, "back(0)", x -> x.back(0));
    c.due(STATE, "back(1)", x -> x.back(1));
    c.due(-11, "lay(0, 0, 1)", x -> x.lay(0, 0, 1));
  }

  // ---- what only asks

  private static void asking(Calls c) {
    for (int v = -1; v < 8; v++) {
      int a = v;
      c.asks("rule(" + v + ")", x -> x.rule(a));
      c.asks("one(" + v + ", 4)", x -> x.one(a, 4));
      c.asks("gate(" + v + ", 3)", x -> x.gate(a, 3));
      c.asks("pair(0, " + v + ")", x -> x.pair(0, a));
      c.asks("act(" + v + ")", x -> x.act(a));
      c.asks("degree(" + v + ", 2)", x -> x.degree(a, 2));
      c.asks("forebear(" + v + ", 2)", x -> x.forebear(a, 2));
      c.asks("runs(" + v + ")", x -> x.runs(a));
      c.asks("ahead(" + v + ")", x -> x.ahead(a));
      c.asks("line(" + v + ", 0)", x -> x.line(a, 0));
      c.asks("line(0, 10 + " + v + ")", x -> x.line(0, 10 + a));
      c.asks("send(" + v + ", 1, 0)", x -> x.send(a, 1, 0));
      c.asks("send(2, 1, 10 + " + v + ")", x -> x.send(2, 1, 10 + a));
      c.asks("match(" + v + ", 0)", x -> x.match(a, 0));
      c.asks("match(1, " + v + ")", x -> x.match(1, a));
      c.asks("apart(" + v + ")", x -> x.apart(a));
      c.asks("mean(" + v + ", 0)", x -> x.mean(a, 0));
      c.asks("luck(3, " + v + ", 1)", x -> x.luck(3, a, 1));
      c.asks("parents(" + v + ")", x -> x.parents(a));
      c.asks("reaches(" + v + ")", x -> x.reaches(a));
      c.asks("look(" + v + ", 0)", x -> x.look(a, 0));
      c.asks("look(4, " + v + ")", x -> x.look(4, a));
      c.asks("drift(" + v + ", 60, 0)", x -> x.drift(a, 60, 0));
      c.asks("count(" + v + ")", x -> x.count(a));
    }
    c.asks("widen()", x -> x.widen());
    c.asks("torn()", x -> x.torn());
    c.asks("fault()", x -> x.fault());
    c.asks("end(count(2))", x -> x.end(x.count(2)));
    c.asks("cut(rule(4))", x -> x.cut(x.rule(4)));
    c.asks("forget(count(0))", x -> x.forget(x.count(0)));
  }

  // ---- texts that are refused

  private static long tell(KinGates x, String text) {
    x.end(0);
    put(x, text);
    return x.text();
  }

  /** All but THE TAPE and fault() stays: each text tells much ahead of its FAULT. */
  private static void refusedTexts(Calls c) {
    String much = "bastard;bastard 0;marry 1 0;feud 1 0;gate 7 1;plan 10;";
    String[] ends = {"A", "gate 123;", "twin;", "plain", "plain 2;", "marry 1 1;", "gate 10;", "plan;",
        "gate 1;gate 1;gate 1;", "marry 0 1;marry 0 1;marry 0 1;", "feud 0 2;", "gate 1 5;"};
    for (String end : ends) {
      c.all.add(new Refused("text() of " + much + end, BAD, x -> tell(x, much + end) <= -10 ? BAD : 0));
    }
  }

  public static void main(String[] args) {
    statesStand();
    List<Probe> all = new ArrayList<>(OF_ALL_BUT_THE_TAPE);
    all.addAll(OF_THE_TAPE);
    Calls house = new Calls();
    everywhereBad(house);
    badInHouse(house);
    asking(house);
    sameBehind("some of everything", KinGatesRefused::house, house.all, all);
    Calls full = new Calls();
    everywhereBad(full);
    fullOrBadInFull(full);
    asking(full);
    sameBehind("full", KinGatesRefused::full, full.all, all);
    Calls fresh = new Calls();
    everywhereBad(fresh);
    badInNew(fresh);
    asking(fresh);
    sameBehind("new", KinGates::new, fresh.all, all);
    Calls texts = new Calls();
    refusedTexts(texts);
    sameBehind("some of everything", KinGatesRefused::house, texts.all, OF_ALL_BUT_THE_TAPE);
    sameBehind("full", KinGatesRefused::full, texts.all, OF_ALL_BUT_THE_TAPE);
    sameBehind("new", KinGates::new, texts.all, OF_ALL_BUT_THE_TAPE);
    System.out.println(made + " objects behind refused calls, " + wrong + " not as due");
    if (wrong != 0) {
      System.exit(1);
    }
  }
}
