import java.math.BigInteger;
import java.util.ArrayList;
import java.util.Arrays;
import java.util.List;
import java.util.Random;
import java.util.TreeSet;
import java.util.regex.Matcher;
import java.util.regex.Pattern;

/**
 * Runs of calls drawn by fixed seeds, answered by the class and by a plain model that goes other
 * ways: degrees by walking all paths, lines by trying all orders, tokens by patterns.
 */
public final class KinGatesModel {
  private static final int BAD = -1, STATE = -2, FULL = -3, NONE = -4;
  private static final int OBJECTS = 3000;
  private static final int CALLS = 512;

  // ---- the model

  private static final class Folk {
    List<int[]> people = new ArrayList<>(); // kind, parent
    List<List<int[]>> pairs = List.of(new ArrayList<>(), new ArrayList<>());
    List<int[]> gates = new ArrayList<>(); // reach, last, went
    List<Integer> plan = new ArrayList<>();

    Folk copy() {
      Folk f = new Folk();
      for (int[] p : people) f.people.add(p.clone());
      for (int k = 0; k < 2; k++) for (int[] p : pairs.get(k)) f.pairs.get(k).add(p.clone());
      for (int[] g : gates) f.gates.add(g.clone());
      f.plan.addAll(plan);
      return f;
    }

    boolean isOne(int p) { return p >= 0 && p < people.size(); }
    boolean isGate(int g) { return g >= 0 && g < gates.size(); }

    int tie(int p) { return new int[] {1, 2, 0, 4}[people.get(p)[0]]; }

    /** The least sum along all ways that visit each ONE at most once; NONE. */
    int degree(int p, int q, TreeSet<Integer> been) {
      if (p == q) return 0;
      been.add(p);
      int best = NONE;
      for (int x = 0; x < people.size(); x++) {
        if (been.contains(x)) continue;
        for (int cost : links(p, x)) {
          int rest = degree(x, q, been);
          if (rest != NONE && (best == NONE || cost + rest < best)) best = cost + rest;
        }
      }
      been.remove(p);
      return best;
    }

    int degree(int p, int q) { return degree(p, q, new TreeSet<>()); }

    List<Integer> links(int p, int x) {
      List<Integer> costs = new ArrayList<>();
      if (people.get(p)[1] == x) costs.add(tie(p));
      if (people.get(x)[1] == p) costs.add(tie(x));
      for (int[] m : pairs.get(0)) {
        if (m[0] == p && m[1] == x || m[0] == x && m[1] == p) costs.add(1);
      }
      return costs;
    }

    boolean lets(int last, int reach, int p) {
      if (last == NONE) return true;
      for (int[] f : pairs.get(1)) {
        if (f[0] == p && f[1] == last || f[0] == last && f[1] == p) return false;
      }
      int d = degree(last, p);
      return d != NONE && d <= reach;
    }

    int letting(int last, int reach) {
      int bits = 0;
      for (int p = 0; p < people.size(); p++) if (lets(last, reach, p)) bits |= 1 << p;
      return bits;
    }

    boolean go(int p, int g) {
      int[] gate = gates.get(g);
      if (!lets(gate[1], gate[0], p)) return false;
      gate[1] = p;
      gate[2] = Math.min(999, gate[2] + 1);
      return true;
    }

    /** Runs THE PLAN on this very folk: bits of the ACTS that are let THROUGH. */
    int run(int away) {
      int bits = 0;
      for (int i = 0; i < plan.size(); i++) {
        int p = plan.get(i) / 10;
        if ((away >> p & 1) == 0 && go(p, plan.get(i) % 10)) bits |= 1 << i;
      }
      return bits;
    }

    int came(int through) {
      int bits = 0;
      for (int i = 0; i < plan.size(); i++) if ((through >> i & 1) != 0) bits |= 1 << plan.get(i) / 10;
      return bits;
    }

    int wentInAll() { return gates.stream().mapToInt(g -> g[2]).sum(); }

    /** All LINES at a GATE, first by rows. */
    List<List<Integer>> allLines(int g) {
      int n = people.size();
      boolean[][] next = new boolean[n][n];
      for (int a = 0; a < n; a++) for (int b = 0; b < n; b++) next[a][b] = lets(a, gates.get(g)[0], b);
      List<List<Integer>> all = new ArrayList<>();
      grow(new ArrayList<>(), letting(gates.get(g)[1], gates.get(g)[0]), next, all);
      return all;
    }

    void grow(List<Integer> line, int starts, boolean[][] next, List<List<Integer>> all) {
      all.add(new ArrayList<>(line));
      for (int p = 0; p < next.length; p++) {
        boolean goes = line.isEmpty() ? (starts >> p & 1) != 0 : next[line.get(line.size() - 1)][p];
        if (goes && !line.contains(p)) {
          line.add(p);
          grow(line, starts, next, all);
          line.remove(line.size() - 1);
        }
      }
    }

    int mostInLine(int g) { return allLines(g).stream().mapToInt(List::size).max().orElse(0); }
  }

  private static final class TextFault extends RuntimeException {
    final int what, place;
    TextFault(int what, int place) { this.what = what; this.place = place; }
  }

  private static final class TextReader {
    static final Pattern TOKEN = Pattern.compile(" *(?:([a-z]+)|([0-9]+)|(;))");
    static final Pattern BLANKS = Pattern.compile(" *");
    final String text;
    int at = 0, place, lines = 0;
    String token;
    Folk f = new Folk();
    boolean planned = false;

    TextReader(String text) { this.text = text; }

    void next() {
      Matcher blanks = BLANKS.matcher(text).region(at, text.length());
      blanks.lookingAt();
      place = blanks.end();
      if (place == text.length()) { token = ""; return; }
      Matcher m = TOKEN.matcher(text).region(at, text.length());
      if (!m.lookingAt()) throw new TextFault(1, place);
      token = text.substring(place, m.end());
      if (m.group(2) != null && token.length() > 2) throw new TextFault(1, place);
      at = m.end();
    }

    boolean isNumber() { return !token.isEmpty() && Character.isDigit(token.charAt(0)); }

    int number(int below, int unlike) {
      if (!isNumber()) throw new TextFault(2, place);
      int v = Integer.parseInt(token);
      if (v >= below || v == unlike) throw new TextFault(3, place);
      next();
      return v;
    }

    void limit(int have, int most) { if (have == most) throw new TextFault(5, place); }

    Folk read() {
      next();
      while (!token.isEmpty()) {
        line();
        if (!token.equals(";")) throw new TextFault(2, place);
        lines++;
        next();
      }
      check();
      return f;
    }

    void line() {
      int kind = Arrays.asList("plain", "adopted", "bastard", "estrange").indexOf(token);
      if (kind >= 0) {
        limit(f.people.size(), 6);
        next();
        f.people.add(new int[] {kind, isNumber() ? number(f.people.size(), -1) : NONE});
      } else if (token.equals("marry") || token.equals("feud")) {
        List<int[]> into = f.pairs.get(token.equals("marry") ? 0 : 1);
        limit(into.size(), 3);
        next();
        int p = number(6, -1);
        into.add(new int[] {p, number(6, p)});
      } else if (token.equals("gate")) {
        limit(f.gates.size(), 3);
        next();
        int reach = number(10, -1);
        f.gates.add(new int[] {reach, isNumber() ? number(6, -1) : NONE, 0});
      } else if (token.equals("plan")) {
        if (planned) throw new TextFault(4, place);
        planned = true;
        next();
        while (isNumber()) {
          limit(f.plan.size(), 8);
          if (!token.matches("[0-5]?[0-2]")) throw new TextFault(3, place);
          f.plan.add(Integer.parseInt(token));
          next();
        }
      } else {
        throw new TextFault(2, place);
      }
    }

    void check() {
      boolean whole = true;
      for (List<int[]> l : f.pairs) for (int[] p : l) whole &= f.isOne(p[0]) && f.isOne(p[1]);
      for (int[] g : f.gates) whole &= g[1] == NONE || f.isOne(g[1]);
      for (int a : f.plan) whole &= f.isOne(a / 10) && f.isGate(a % 10);
      if (!whole) throw new TextFault(6, text.length());
    }
  }

  private static final class Model {
    Folk f = new Folk();
    Folk[] images = new Folk[2];
    StringBuilder tape = new StringBuilder();
    List<int[]> seen = new ArrayList<>();
    Object[] sheets = new Object[4];
    int fault = 0, torn = 0;

    static boolean in(int v, int low, int high) { return v >= low && v <= high; }

    int feed(int c) {
      if (!in(c, 0, 127)) return BAD;
      if (tape.length() == 160) return FULL;
      return tape.append((char) c).length();
    }

    int end(int n) {
      int had = tape.length();
      if (!in(n, 0, had)) return BAD;
      tape.setLength(n);
      return had;
    }

    int text() {
      TextReader r = new TextReader(tape.toString());
      tape.setLength(0);
      try {
        f = r.read();
      } catch (TextFault t) {
        fault = t.what;
        return -10 - t.place;
      }
      fault = 0;
      seen.clear();
      images = new Folk[2];
      return r.lines;
    }

    int rule(int what) {
      int[] all = {f.people.size(), f.pairs.get(0).size(), f.pairs.get(1).size(), f.gates.size(),
          f.plan.size(), f.wentInAll()};
      return in(what, 0, 5) ? all[what] : BAD;
    }

    int one(int p, int what) {
      if (!f.isOne(p) || !in(what, 0, 4)) return BAD;
      if (what < 2) return f.people.get(p)[what];
      if (what == 2) return f.tie(p);
      int bits = 0;
      for (int q = 0; q < f.people.size(); q++) {
        boolean is = what == 3 ? f.people.get(q)[1] == p : f.degree(p, q) != NONE;
        if (is) bits |= 1 << q;
      }
      return bits;
    }

    int gate(int g, int what) {
      if (!f.isGate(g) || !in(what, 0, 3)) return BAD;
      int[] gate = f.gates.get(g);
      return what < 3 ? gate[what] : f.letting(gate[1], gate[0]);
    }

    int pair(int kind, int i) {
      if (!in(kind, 0, 1) || !in(i, 0, f.pairs.get(kind).size() - 1)) return BAD;
      int[] p = f.pairs.get(kind).get(i);
      return 10 * p[0] + p[1];
    }

    int act(int i) { return in(i, 0, f.plan.size() - 1) ? f.plan.get(i) : BAD; }

    int degree(int p, int q) { return f.isOne(p) && f.isOne(q) ? f.degree(p, q) : BAD; }

    TreeSet<Integer> forebears(int p) {
      TreeSet<Integer> s = new TreeSet<>();
      for (int x = p; x != NONE; x = f.people.get(x)[1]) s.add(x);
      return s;
    }

    int forebear(int p, int q) {
      if (!f.isOne(p) || !f.isOne(q)) return BAD;
      TreeSet<Integer> s = forebears(p);
      s.retainAll(forebears(q));
      return s.isEmpty() ? NONE : s.last();
    }

    int alter(int p, int what, int v) {
      boolean fits = what == 0 && in(v, 0, 3) || what == 1 && (v == NONE || in(v, 0, p - 1));
      if (!f.isOne(p) || !fits) return BAD;
      int was = f.people.get(p)[what];
      f.people.get(p)[what] = v;
      return was;
    }

    int more(int kind, int p, int q) {
      if (!f.isOne(p) || !f.isOne(q) || p == q) return BAD;
      if (f.pairs.get(kind).size() == 3) return FULL;
      f.pairs.get(kind).add(new int[] {p, q});
      return f.pairs.get(kind).size();
    }

    int undo(int kind, int i) {
      if (pair(kind, i) == BAD) return BAD;
      f.pairs.get(kind).remove(i);
      return f.pairs.get(kind).size();
    }

    int set(int g, int what, int v) {
      boolean fits = what == 0 && in(v, 0, 9) || what == 1 && (v == NONE || f.isOne(v));
      if (!f.isGate(g) || !fits) return BAD;
      int was = f.gates.get(g)[what];
      f.gates.get(g)[what] = v;
      return was;
    }

    int plan(int act) {
      if (act < 0 || !f.isOne(act / 10) || !f.isGate(act % 10)) return BAD;
      if (f.plan.size() == 8) return FULL;
      f.plan.add(act);
      return f.plan.size();
    }

    int cut(int n) {
      int had = f.plan.size();
      if (!in(n, 0, had)) return BAD;
      while (f.plan.size() > n) f.plan.remove(n);
      return had;
    }

    int go(int p, int g) { return f.isOne(p) && f.isGate(g) ? f.go(p, g) ? 1 : 0 : BAD; }

    int runs(int what) {
      if (!in(what, 0, 3)) return BAD;
      int through = f.copy().run(0);
      if (what == 0) return through;
      if (what == 1) return Integer.bitCount(through);
      if (what == 2) return f.came(through);
      for (int i = 0; i < f.plan.size(); i++) if ((through >> i & 1) == 0) return i;
      return NONE;
    }

    int ahead(int g) {
      if (!f.isGate(g)) return BAD;
      Folk c = f.copy();
      c.run(0);
      return c.gates.get(g)[1];
    }

    int line(int g, int what) {
      if (!f.isGate(g) || !in(what, 0, 1) && what < 10) return BAD;
      List<List<Integer>> most = new ArrayList<>(f.allLines(g));
      int size = f.mostInLine(g);
      most.removeIf(l -> l.size() < size);
      if (what == 0) return size;
      if (what == 1) return most.size();
      return what - 10 < size ? most.get(0).get(what - 10) : NONE;
    }

    int send(int p, int g, int what) {
      if (!f.isOne(p) || !f.isGate(g) || what != 0 && what < 10) return BAD;
      List<Integer> best = null;
      for (List<Integer> l : f.allLines(g)) {
        if (!l.isEmpty() && l.get(l.size() - 1) == p && (best == null || l.size() < best.size())) best = l;
      }
      if (best == null) return NONE;
      int others = best.size() - 1;
      if (what == 0) return others;
      return what - 10 < others ? best.get(what - 10) : NONE;
    }

    int match(int g, int what) {
      if (!f.isGate(g) || !in(what, 0, 1)) return BAD;
      if (f.pairs.get(0).size() == 3) return FULL;
      int best = f.mostInLine(g), who = NONE;
      for (int code = 0; code < 60; code++) {
        int p = code / 10, q = code % 10;
        if (p >= q || !f.isOne(q)) continue;
        Folk c = f.copy();
        c.pairs.get(0).add(new int[] {p, q});
        int most = c.mostInLine(g);
        if (most > best) { best = most; who = code; }
      }
      return who == NONE ? NONE : what == 0 ? who : best;
    }

    int widen() {
      int bits = 0;
      for (int g = 0; g < f.gates.size(); g++) {
        int[] gate = f.gates.get(g);
        if (f.letting(gate[1], gate[0] + 1) != f.letting(gate[1], gate[0])) bits |= 1 << g;
      }
      return bits;
    }

    int apart(int what) {
      if (!in(what, 0, 1)) return BAD;
      int best = -1, who = NONE;
      for (int code = 0; code < 60; code++) {
        int p = code / 10, q = code % 10;
        if (p >= q || !f.isOne(q)) continue;
        if (f.degree(p, q) > best) { best = f.degree(p, q); who = code; }
      }
      return who == NONE ? NONE : what == 0 ? who : best;
    }

    /** The chance of each set of those who stay away, over 10 to the PEOPLE. */
    long odds(int v, int p, int what) {
      BigInteger top = BigInteger.ZERO, bottom = BigInteger.TEN.pow(f.people.size());
      for (int away = 0; away < 1 << f.people.size(); away++) {
        int gone = Integer.bitCount(away);
        BigInteger w = BigInteger.valueOf(v).pow(gone)
            .multiply(BigInteger.valueOf(10 - v).pow(f.people.size() - gone));
        if (w.signum() == 0) continue;
        int through = f.copy().run(away);
        int worth = p < 0 ? Integer.bitCount(through) : f.came(through) >> p & 1;
        top = top.add(w.multiply(BigInteger.valueOf(worth)));
      }
      BigInteger d = top.gcd(bottom);
      return (what == 0 ? top : bottom).divide(d).longValueExact();
    }

    long mean(int v, int what) { return in(v, 0, 10) && in(what, 0, 1) ? odds(v, -1, what) : BAD; }

    long luck(int v, int p, int what) {
      return in(v, 0, 10) && in(what, 0, 1) && f.isOne(p) ? odds(v, p, what) : BAD;
    }

    int see(int i, boolean is) {
      if (!in(i, 0, 7)) return BAD;
      if (seen.size() == 6) return FULL;
      seen.add(new int[] {i, is ? 1 : 0});
      return seen.size();
    }

    int forget(int n) {
      int had = seen.size();
      if (!in(n, 0, had)) return BAD;
      while (seen.size() > n) seen.remove(n);
      return had;
    }

    boolean asSeen(int through) {
      for (int[] s : seen) if ((through >> s[0] & 1) != s[1]) return false;
      return true;
    }

    /** By each PARENT that fits: its bit and what THE PLAN comes to. */
    List<int[]> fits(int p) {
      List<int[]> all = new ArrayList<>();
      for (int q = -1; q < p; q++) {
        Folk c = f.copy();
        c.people.get(p)[1] = q < 0 ? NONE : q;
        int through = c.run(0);
        if (asSeen(through)) all.add(new int[] {q < 0 ? 64 : 1 << q, through});
      }
      return all;
    }

    int parents(int p) { return f.isOne(p) ? fits(p).stream().mapToInt(x -> x[0]).sum() : BAD; }

    int reaches(int g) {
      if (!f.isGate(g)) return BAD;
      int bits = 0;
      for (int r = 0; r <= 9; r++) {
        Folk c = f.copy();
        c.gates.get(g)[0] = r;
        if (asSeen(c.run(0))) bits += 1 << r;
      }
      return bits;
    }

    int look(int p, int what) {
      if (!f.isOne(p) || !in(what, 0, 1)) return BAD;
      List<int[]> all = fits(p);
      int best = all.size(), where = NONE;
      for (int i = 0; i < f.plan.size(); i++) {
        final int at = i;
        int yes = (int) all.stream().filter(x -> (x[1] >> at & 1) == 1).count();
        int worst = Math.max(yes, all.size() - yes);
        if (worst < best) { best = worst; where = i; }
      }
      return where == NONE ? NONE : what == 0 ? where : best;
    }

    int drift(int seed, int n, int what) {
      if (!in(n, 1, 60) || !in(what, 0, 1)) return BAD;
      if (f.people.isEmpty() || f.gates.isEmpty()) return STATE;
      Folk c = f.copy();
      int through = 0;
      long s = seed;
      for (int i = 0; i < n; i++) {
        s = (s * 1103515245L + 12345L) & 0xffffffffL;
        int p = (int) (s / 65536 % 32768 % c.people.size());
        s = (s * 1103515245L + 12345L) & 0xffffffffL;
        int g = (int) (s / 65536 % 32768 % c.gates.size());
        if (c.go(p, g)) through++;
      }
      return what == 0 ? through : c.gates.get(0)[1];
    }

    int keep(int k) {
      if (!in(k, 0, 1)) return BAD;
      int was = images[k] == null ? 0 : 1;
      images[k] = f.copy();
      return was;
    }

    int back(int k) {
      if (!in(k, 0, 1)) return BAD;
      if (images[k] == null) return STATE;
      f = images[k].copy();
      return f.wentInAll();
    }

    int sheet(int k, int lane, int n) {
      if (!in(k, 0, 3) || !in(lane, 0, 2) || n > 40) return BAD;
      if (n < 0) return -14;
      sheets[k] = lane == 0 ? new byte[n] : lane == 1 ? new short[n] : new int[n];
      return 1;
    }

    int lay(int k, int i, int v) {
      if (!in(k, 0, 3)) return BAD;
      try {
        if (sheets[k] instanceof byte[] b) b[i] = (byte) v;
        else if (sheets[k] instanceof short[] s) s[i] = (short) v;
        else ((int[]) sheets[k])[i] = v;
      } catch (NullPointerException e) {
        return -11;
      } catch (ArrayIndexOutOfBoundsException e) {
        return -12;
      }
      return 1;
    }

    int cell(int k, int lane, int i) {
      if (lane == 0) return ((byte[]) sheets[k])[i];
      if (lane == 1) return ((short[]) sheets[k])[i];
      return ((int[]) sheets[k])[i];
    }

    int read(int k, int lane, int at, int n) {
      if (!in(k, 0, 3) || !in(lane, 0, 2) || !in(n, 0, 20)) return BAD;
      List<int[]> goers = new ArrayList<>();
      int found = 0;
      try {
        for (int i = 0; i < n; i++) {
          int[] x = {cell(k, lane, at + 2 * i), cell(k, lane, at + 2 * i + 1)};
          if (!f.isOne(x[0]) || !f.isGate(x[1])) return -20 - i;
          goers.add(x);
        }
      } catch (NullPointerException e) {
        found = 1;
      } catch (ArrayIndexOutOfBoundsException e) {
        found = 2;
      } catch (ClassCastException e) {
        found = 3;
      }
      torn = found;
      for (int[] x : goers) f.go(x[0], x[1]);
      return goers.size();
    }

    int count(int what) {
      switch (what) {
        case 0: return seen.size();
        case 1: return (images[0] == null ? 0 : 1) + (images[1] == null ? 0 : 1);
        case 2: return tape.length();
        case 3: return sheets[0] == null ? NONE : java.lang.reflect.Array.getLength(sheets[0]);
        case 4: return (int) f.people.stream().filter(p -> p[1] == NONE).count();
        default: return BAD;
      }
    }
  }

  // ---- the runs

  private static final class Run {
    final Random dice;
    final KinGates x = new KinGates();
    final Model m = new Model();
    final List<String> told = new ArrayList<>();
    int calls = 0;
    boolean wrong = false;

    Run(long seed) { dice = new Random(seed); }

    void same(String call, long got, long want) {
      calls++;
      told.add(call + " = " + got);
      if (got != want && !wrong) {
        wrong = true;
        int from = Math.max(0, told.size() - 200);
        System.out.println(String.join("\n", told.subList(from, told.size())));
        System.out.println("  the model answers " + want);
      }
    }

    /** Mostly from low to high, now and then outside. */
    int some(int low, int high) {
      int d = dice.nextInt(40);
      if (d == 0) return low - 1;
      if (d == 1) return high + 1;
      if (d == 2) return dice.nextInt(9) == 0 ? dice.nextInt() : NONE;
      return low + dice.nextInt(high - low + 1);
    }

    void tell(String text) {
      for (char c : text.toCharArray()) {
        int want = m.feed(c);
        same("feed(" + (int) c + ")", x.feed(c), want);
      }
      same("text() of '" + text + "'", x.text(), m.text());
      same("fault()", x.fault(), m.fault);
    }

    String blanks(int least) { return " ".repeat(dice.nextInt(12) == 0 ? least + 1 : least); }

    String randomText() {
      StringBuilder b = new StringBuilder();
      String[] kinds = {"plain", "adopted", "bastard", "estrange"};
      int n = dice.nextInt(10) == 0 ? dice.nextInt(7) : 3 + dice.nextInt(4);
      for (int i = 0; i < n; i++) {
        b.append(kinds[dice.nextInt(dice.nextInt(3) == 0 ? 1 : 4)]);
        if (i > 0 && dice.nextInt(5) != 0) b.append(blanks(0)).append(dice.nextInt(i));
        b.append(';');
      }
      int top = Math.max(1, n);
      for (int k = 0; k < 2; k++) {
        for (int i = dice.nextInt(6) / 2; i > 0 && n > 1; i--) {
          int p = dice.nextInt(top), q = (p + 1 + dice.nextInt(top - 1)) % top;
          b.append(k == 0 ? "marry" : "feud").append(p).append(" ").append(q).append(";");
        }
      }
      int gates = dice.nextInt(12) == 0 ? 0 : 1 + dice.nextInt(3);
      for (int g = 0; g < gates; g++) {
        b.append("gate").append(blanks(0)).append(dice.nextInt(dice.nextBoolean() ? 4 : 10));
        if (dice.nextInt(3) == 0 && n > 0) b.append(" ").append(dice.nextInt(n));
        b.append(";");
      }
      if (gates > 0 && n > 0 && dice.nextInt(8) != 0) {
        b.append("plan");
        int acts = dice.nextInt(9);
        for (int i = 0; i < acts; i++) b.append(" ").append(dice.nextInt(n) * 10 + dice.nextInt(gates));
        b.append(";");
      }
      return b.substring(0, Math.min(160, b.length()));
    }

    String spoilt(String text) {
      StringBuilder b = new StringBuilder(text);
      String signs = "  ;;0123456789aelnprt~A\u0000\t";
      for (int i = 1 + dice.nextInt(2); i > 0; i--) {
        int at = dice.nextInt(b.length() + 1);
        char c = signs.charAt(dice.nextInt(signs.length()));
        int how = dice.nextInt(3);
        if (how == 0 && at < b.length()) b.deleteCharAt(at);
        else if (how == 1 && at < b.length()) b.setCharAt(at, c);
        else b.insert(at, c);
      }
      return b.substring(0, Math.min(160, b.length()));
    }

    void lines() {
      int p = some(0, 5), g = some(0, 2);
      switch (dice.nextInt(12)) {
        case 0, 1: { int w = some(0, 1); same("line(" + g + ", " + w + ")", x.line(g, w), m.line(g, w)); break; }
        case 2, 3: { int w = some(10, 16); same("line(" + g + ", " + w + ")", x.line(g, w), m.line(g, w)); break; }
        case 4, 5: same("send(" + p + ", " + g + ", 0)", x.send(p, g, 0), m.send(p, g, 0)); break;
        case 6: { int w = some(10, 14); same("send(" + p + ", " + g + ", " + w + ")", x.send(p, g, w), m.send(p, g, w)); break; }
        case 7, 8: { int w = some(0, 1); same("match(" + g + ", " + w + ")", x.match(g, w), m.match(g, w)); break; }
        case 9, 10: same("widen()", x.widen(), m.widen()); break;
        default: { int w = some(0, 1); same("apart(" + w + ")", x.apart(w), m.apart(w)); }
      }
    }

    void asks() {
      int p = some(0, 5), q = some(0, 5), g = some(0, 2), w = some(0, 5), k = some(0, 1), i = some(0, 7);
      switch (dice.nextInt(10)) {
        case 0: same("rule(" + w + ")", x.rule(w), m.rule(w)); break;
        case 1: same("one(" + p + ", " + w + ")", x.one(p, w), m.one(p, w)); break;
        case 2: same("gate(" + g + ", " + w + ")", x.gate(g, w), m.gate(g, w)); break;
        case 3: same("pair(" + k + ", " + w + ")", x.pair(k, w), m.pair(k, w)); break;
        case 4: same("act(" + i + ")", x.act(i), m.act(i)); break;
        case 5: same("degree(" + p + ", " + q + ")", x.degree(p, q), m.degree(p, q)); break;
        case 6: same("forebear(" + p + ", " + q + ")", x.forebear(p, q), m.forebear(p, q)); break;
        case 7: same("runs(" + w + ")", x.runs(w), m.runs(w)); break;
        case 8: same("ahead(" + g + ")", x.ahead(g), m.ahead(g)); break;
        default: same("count(" + w + ")", x.count(w), m.count(w));
      }
    }

    void changes() {
      int p = some(0, 5), q = some(0, 5), g = some(0, 2), k = some(0, 1), i = some(0, 2), v = some(0, 9);
      switch (dice.nextInt(11)) {
        case 0, 1: { int w = dice.nextInt(4); same("alter(" + p + ", 0, " + w + ")", x.alter(p, 0, w), m.alter(p, 0, w)); break; }
        case 2: same("alter(" + p + ", " + k + ", " + q + ")", x.alter(p, k, q), m.alter(p, k, q)); break;
        case 3: same("marry(" + p + ", " + q + ")", x.marry(p, q), m.more(0, p, q)); break;
        case 4: same("feud(" + p + ", " + q + ")", x.feud(p, q), m.more(1, p, q)); break;
        case 5, 6: same("undo(" + k + ", " + i + ")", x.undo(k, i), m.undo(k, i)); break;
        case 7: same("set(" + g + ", " + k + ", " + v + ")", x.set(g, k, v), m.set(g, k, v)); break;
        case 8, 9: { int a = dice.nextInt(30) == 0 ? dice.nextInt() : 10 * p + g; same("plan(" + a + ")", x.plan(a), m.plan(a)); break; }
        default: same("cut(" + v + ")", x.cut(v), m.cut(v));
      }
    }

    void guesses() {
      int p = some(0, 5), g = some(0, 2), w = some(0, 1), i = some(0, 7), v = some(0, 10);
      boolean is = (m.f.copy().run(0) >> i & 1) == 1 ^ dice.nextInt(12) == 0;
      switch (dice.nextInt(10)) {
        case 0: same("mean(" + v + ", " + w + ")", x.mean(v, w), m.mean(v, w)); break;
        case 1: same("luck(" + v + ", " + p + ", " + w + ")", x.luck(v, p, w), m.luck(v, p, w)); break;
        case 2: same("see(" + i + ", " + is + ")", x.see(i, is), m.see(i, is)); break;
        case 3: { int n = some(0, 4); same("forget(" + n + ")", x.forget(n), m.forget(n)); break; }
        case 4, 5: same("parents(" + p + ")", x.parents(p), m.parents(p)); break;
        case 6: same("reaches(" + g + ")", x.reaches(g), m.reaches(g)); break;
        case 7, 8: same("look(" + p + ", " + w + ")", x.look(p, w), m.look(p, w)); break;
        default: { int s = dice.nextInt(), n = some(1, 60); same("drift(" + s + ", " + n + ", " + w + ")", x.drift(s, n, w), m.drift(s, n, w)); }
      }
    }

    void keeps() {
      int k = some(0, 3), lane = some(0, 2), n = dice.nextInt(4) == 0 ? some(0, 40) : some(0, 8), i = some(0, 8);
      switch (dice.nextInt(10)) {
        case 0: { int im = some(0, 1); same("keep(" + im + ")", x.keep(im), m.keep(im)); break; }
        case 1: { int im = some(0, 1); same("back(" + im + ")", x.back(im), m.back(im)); break; }
        case 2: same("sheet(" + k + ", " + lane + ", " + n + ")", x.sheet(k, lane, n), m.sheet(k, lane, n)); break;
        case 3, 4, 5: { int v = some(0, 2) + (dice.nextInt(5) == 0 ? 1 << (8 << dice.nextInt(2)) : 0); same("lay(" + k + ", " + i + ", " + v + ")", x.lay(k, i, v), m.lay(k, i, v)); break; }
        case 6, 7: { int many = some(0, dice.nextBoolean() ? 4 : 20), from = some(0, 3); same("read(" + k + ", " + lane + ", " + from + ", " + many + ")", x.read(k, lane, from, many), m.read(k, lane, from, many)); break; }
        default: same("torn()", x.torn(), m.torn);
      }
    }

    boolean all() {
      if (dice.nextInt(3) == 0) tell(spoilt(randomText()));
      tell(randomText());
      while (calls < CALLS && !wrong) {
        int d = dice.nextInt(100);
        if (d < 25) asks();
        else if (d < 40) changes();
        else if (d < 50) { int p = some(0, 5), g = some(0, 2); same("go(" + p + ", " + g + ")", x.go(p, g), m.go(p, g)); }
        else if (d < 65) lines();
        else if (d < 82) guesses();
        else if (d < 97) keeps();
        else if (d < 98) { int c = some(0, 127); same("feed(" + c + ")", x.feed(c), m.feed(c)); }
        else if (d < 99) { int n = some(0, 2); same("end(" + n + ")", x.end(n), m.end(n)); }
        else if (calls < CALLS - 170 && dice.nextInt(2) == 0) tell(dice.nextBoolean() ? spoilt(randomText()) : randomText());
      }
      return !wrong;
    }
  }

  public static void main(String[] args) {
    int wrong = 0;
    for (int seed = 0; seed < OBJECTS && wrong < 3; seed++) {
      if (!new Run(seed).all()) {
        wrong++;
        System.out.println("the run of seed " + seed + " went wrong");
      }
    }
    System.out.println(wrong == 0 ? "all runs are as the model's" : "some runs are not as the model's");
    if (wrong != 0) System.exit(1);
  }
}
