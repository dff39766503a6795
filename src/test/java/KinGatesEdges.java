import java.util.function.IntUnaryOperator;

/**
 * Each sentence of the document that names a bound, in the document's order: the last number that
 * fits, the first that does not, the empty, the full, the wrap-around. What a refused call leaves
 * behind is looked at by KinGatesRefused.
 */
public final class KinGatesEdges {
  private static final int BAD = -1, STATE = -2, FULL = -3, NONE = -4;
  private static final int LOW = Integer.MIN_VALUE, HIGH = Integer.MAX_VALUE;
  private static final String SIX = "plain;plain;plain;plain;plain;plain;";
  private static final String THREE_GATES = "gate 0;gate 0;gate 0;";

  private static int wrong = 0;
  private static int asked = 0;
  private static String sentence = "";

  private static void due(String call, long got, long want) {
    asked++;
    if (got != want) {
      wrong++;
      System.out.println("'" + sentence + "': " + call + " answered " + got + ", due is " + want);
    }
  }

  /** All numbers right outside of the bounds, far off, and those whose lowest bits would fit. */
  private static void badOutside(String call, int low, int high, IntUnaryOperator f) {
    int[] outside = {low - 1, high + 1, low - 2, high + 2, LOW, LOW + low, HIGH, low + 256, high - 256,
        low + 65536, high - 65536};
    for (int v : outside) {
      due(call + " of " + v, f.applyAsInt(v), BAD);
    }
  }

  private static void put(KinGates x, String text) {
    for (int i = 0; i < text.length(); i++) {
      due("feed of '" + text + "', taken", x.feed(text.charAt(i)) > 0 ? 1 : 0, 1);
    }
  }

  private static KinGates told(String text) {
    KinGates x = new KinGates();
    put(x, text);
    due("text() of '" + text + "', taken", x.text() >= 0 ? 1 : 0, 1);
    return x;
  }

  private static KinGates taken(String text, int lines) {
    KinGates x = new KinGates();
    put(x, text);
    due("text() of '" + text + "'", x.text(), lines);
    due("fault() of '" + text + "'", x.fault(), 0);
    due("count(2) behind '" + text + "'", x.count(2), 0);
    return x;
  }

  private static void refused(String text, int fault, int place) {
    KinGates x = new KinGates();
    put(x, text);
    due("text() of '" + text + "'", x.text(), -10 - place);
    due("fault() of '" + text + "'", x.fault(), fault);
    due("count(2) behind '" + text + "'", x.count(2), 0);
    due("rule(0) behind '" + text + "'", x.rule(0), 0);
    due("rule(3) behind '" + text + "'", x.rule(3), 0);
  }

  // ---- Terms: answers

  /** Three of each pair, eight ACTS, six SEEN, a full TAPE. */
  private static KinGates full() {
    KinGates x = told("plain;plain;marry 0 1;marry 0 1;marry 0 1;feud 0 1;feud 0 1;feud 0 1;gate 0;"
        + "plan 0 0 0 0 0 0 0 0;");
    for (int i = 0; i < 6; i++) {
      x.see(0, true);
    }
    put(x, " ".repeat(160));
    return x;
  }

  private static void firstThatFits() {
    sentence = "Answers: BAD, STATE, FULL, NONE, the first that fits";
    KinGates x = full();
    due("feed(128), BAD ahead of FULL", x.feed(128), BAD);
    due("feed(-1), BAD ahead of FULL", x.feed(-1), BAD);
    due("feed(0)", x.feed(0), FULL);
    due("marry(0, 0), BAD ahead of FULL", x.marry(0, 0), BAD);
    due("marry(2, 0), BAD ahead of FULL", x.marry(2, 0), BAD);
    due("marry(0, -1), BAD ahead of FULL", x.marry(0, -1), BAD);
    due("marry(0, 1)", x.marry(0, 1), FULL);
    due("feud(1, 1), BAD ahead of FULL", x.feud(1, 1), BAD);
    due("feud(0, 2), BAD ahead of FULL", x.feud(0, 2), BAD);
    due("feud(-1, 0), BAD ahead of FULL", x.feud(-1, 0), BAD);
    due("feud(1, 0)", x.feud(1, 0), FULL);
    due("plan(20), BAD ahead of FULL", x.plan(20), BAD);
    due("plan(1), BAD ahead of FULL", x.plan(1), BAD);
    due("plan(-1), BAD ahead of FULL", x.plan(-1), BAD);
    due("plan(10)", x.plan(10), FULL);
    due("see(8, true), BAD ahead of FULL", x.see(8, true), BAD);
    due("see(-1, false), BAD ahead of FULL", x.see(-1, false), BAD);
    due("see(7, false)", x.see(7, false), FULL);
    due("match(1, 0), BAD ahead of FULL", x.match(1, 0), BAD);
    due("match(0, 2), BAD ahead of FULL", x.match(0, 2), BAD);
    due("match(0, 0), FULL ahead of NONE", x.match(0, 0), FULL);
    due("match(0, 1), FULL ahead of NONE", x.match(0, 1), FULL);
    KinGates e = new KinGates();
    due("back(2), BAD ahead of STATE", e.back(2), BAD);
    due("back(1)", e.back(1), STATE);
    due("drift(1, 0, 0), BAD ahead of STATE", e.drift(1, 0, 0), BAD);
    due("drift(1, 61, 0), BAD ahead of STATE", e.drift(1, 61, 0), BAD);
    due("drift(1, 1, 2), BAD ahead of STATE", e.drift(1, 1, 2), BAD);
    due("drift(1, 1, 0)", e.drift(1, 1, 0), STATE);
    due("apart(2), BAD ahead of NONE", e.apart(2), BAD);
    due("sheet(4, 0, -1), BAD ahead of SIZE", e.sheet(4, 0, -1), BAD);
    due("sheet(0, 3, -1), BAD ahead of SIZE", e.sheet(0, 3, -1), BAD);
    due("lay(4, -1, 0), BAD ahead of NULL", e.lay(4, -1, 0), BAD);
    due("read(0, 0, 0, 21), BAD ahead of NULL", e.read(0, 0, 0, 21), BAD);
    due("read(0, 3, 0, 1), BAD ahead of NULL", e.read(0, 3, 0, 1), BAD);
    due("degree(0, 0) of nobody, BAD ahead of 0", e.degree(0, 0), BAD);
    due("forebear(0, 0) of nobody, BAD ahead of NONE", e.forebear(0, 0), BAD);
    KinGates far = told("plain;plain;gate 0 0;");
    due("send(1, 0, 1), BAD ahead of NONE", far.send(1, 0, 1), BAD);
    due("send(1, 0, 0)", far.send(1, 0, 0), NONE);
    due("look(1, 2), BAD ahead of NONE", far.look(1, 2), BAD);
    due("match(0, -1), BAD ahead of NONE", far.match(0, -1), BAD);
  }

  private static void fractions() {
    sentence = "Fractions are in lowest terms, the denominator above 0 (0 is 0 by 1)";
    KinGates x = told("plain;plain;plain;plain;plain;plain;gate 0;plan 0;");
    int[] tops = {1, 9, 4, 7, 3, 1, 2, 3, 1, 1, 0};
    int[] bottoms = {1, 10, 5, 10, 5, 2, 5, 10, 5, 10, 1};
    for (int v = 0; v <= 10; v++) {
      due("mean(" + v + ", 0)", x.mean(v, 0), tops[v]);
      due("mean(" + v + ", 1)", x.mean(v, 1), bottoms[v]);
      due("luck(" + v + ", 0, 0)", x.luck(v, 0, 0), tops[v]);
      due("luck(" + v + ", 0, 1)", x.luck(v, 0, 1), bottoms[v]);
      due("luck(" + v + ", 5, 0), in no ACT", x.luck(v, 5, 0), 0);
      due("luck(" + v + ", 5, 1), in no ACT", x.luck(v, 5, 1), 1);
    }
    KinGates six = told("plain;plain 0;plain 1;plain 2;plain 3;plain 4;gate 0 5;plan 0 10 20 30 40 50;");
    due("mean(3, 0), the last alone goes", six.mean(3, 0), 7);
    due("mean(3, 1), the last alone goes", six.mean(3, 1), 10);
    KinGates deep = told(SIX + "gate 0;plan 0 10 20 30 40 50;");
    due("luck(3, 5, 0), all others stay away", deep.luck(3, 5, 0), 1701);
    due("luck(3, 5, 1), all others stay away", deep.luck(3, 5, 1), 1000000);
    due("mean(3, 0), whoever comes first", deep.mean(3, 0), 999271);
    due("mean(3, 1), whoever comes first", deep.mean(3, 1), 1000000);
    due("luck(9, 5, 0)", deep.luck(9, 5, 0), 59049);
    due("luck(9, 5, 1)", deep.luck(9, 5, 1), 1000000);
  }

  // ---- Terms: what a text may tell

  private static String repeated(String line, int many) {
    return line.repeat(many);
  }

  private static void people() {
    sentence = "PEOPLE (6 at most); FAULT 5 the 7th ONE (its NAME)";
    due("rule(0)", taken(SIX, 6).rule(0), 6);
    for (String kind : new String[] {"plain", "adopted", "bastard", "estrange"}) {
      taken(repeated(kind + ";", 6), 6);
      refused(SIX + kind + ";", 5, 36);
      refused(SIX + "  " + kind, 5, 38);
      refused(SIX + kind + " 123;", 5, 36);
      refused(SIX + "gate 1;" + kind + " 9;", 5, 43);
    }
    sentence = "PARENT, if it has one (0 to 5, ahead of it); FAULT 3: not ahead of it";
    for (int p = 0; p < 6; p++) {
      String ahead = repeated("plain;", p);
      int place = ahead.length() + 6;
      due("one(" + p + ", 1)", taken(ahead + "plain;", p + 1).one(p, 1), NONE);
      for (int q = 0; q < 10; q++) {
        if (q < p) {
          due("one(" + p + ", 1)", taken(ahead + "plain " + q + ";", p + 1).one(p, 1), q);
          due("one(" + p + ", 1)", taken(ahead + "plain 0" + q + ";", p + 1).one(p, 1), q);
        } else {
          refused(ahead + "plain " + q + ";", 3, place);
          refused(ahead + "plain " + (90 + q) + "x", 3, place);
        }
      }
    }
    sentence = "KIND (0 plain, 1 adopted, 2 bastard, 3 estranged), TIE 1, 2, 0, 4";
    KinGates x = taken("plain;adopted;bastard;estrange;", 4);
    int[] ties = {1, 2, 0, 4};
    for (int p = 0; p < 4; p++) {
      due("one(" + p + ", 0)", x.one(p, 0), p);
      due("one(" + p + ", 2)", x.one(p, 2), ties[p]);
    }
  }

  private static void pairsTold() {
    for (int kind = 0; kind < 2; kind++) {
      String name = kind == 0 ? "marry" : "feud";
      int n = name.length();
      sentence = name + " (3 at most); FAULT 5 the 4th (its NAME)";
      String three = repeated(name + " 0 1;", 3);
      due("rule", taken("plain;plain;" + three, 5).rule(1 + kind), 3);
      refused(three + name, 5, three.length());
      refused(three + " " + name + " 9 9;", 5, three.length() + 1);
      sentence = name + ": two ONES (0 to 5); FAULT 3 out of its bounds";
      due("pair", taken(SIX + name + " 5 0;", 7).pair(kind, 0), 50);
      due("pair", taken(SIX + name + " 0 5;", 7).pair(kind, 0), 5);
      due("pair", taken(SIX + name + " 05 04;", 7).pair(kind, 0), 54);
      for (int v : new int[] {6, 7, 9, 10, 15, 99}) {
        refused(SIX + name + " " + v + " 0;", 3, 37 + n);
        refused(SIX + name + " 0 " + v + ";", 3, 39 + n);
      }
      refused(SIX + name + " 6 6;", 3, 37 + n);
      sentence = name + ": FAULT 3 alike with the first one";
      for (int v = 0; v < 6; v++) {
        refused(SIX + name + " " + v + " " + v + ";", 3, 39 + n);
        refused(SIX + name + " " + v + " 0" + v + ";", 3, 39 + n);
      }
      sentence = name + ": a line of just two NUMBERS";
      refused(name + ";", 2, n);
      refused(name, 2, n);
      refused(name + " 0;", 2, n + 2);
      refused(name + " 0", 2, n + 2);
      refused(name + " 0 1", 2, n + 4);
      refused(name + " 0 1 0;", 2, n + 5);
      refused(name + " x 1;", 2, n + 1);
    }
    sentence = "MARRIAGES and FEUDS are counted each by themselves";
    taken("plain;plain;" + repeated("marry 0 1;", 3) + repeated("feud 0 1;", 3), 8);
  }

  private static void gatesTold() {
    sentence = "GATES (3 at most); FAULT 5 the 4th gate (its NAME)";
    due("rule(3)", taken(THREE_GATES, 3).rule(3), 3);
    refused(THREE_GATES + "gate", 5, 21);
    refused(THREE_GATES + " gate 99;", 5, 22);
    sentence = "gate: a REACH (0 to 9); FAULT 3 out of its bounds";
    for (int r = 0; r <= 9; r++) {
      due("gate(0, 0)", taken("gate " + r + ";", 1).gate(0, 0), r);
      due("gate(0, 0)", taken("gate 0" + r + ";", 1).gate(0, 0), r);
      refused("gate " + (10 + 9 * r) + ";", 3, 5);
    }
    refused("gate 99;", 3, 5);
    sentence = "gate: LAST (0 to 5), if there is one; WENT (0 at first)";
    KinGates none = taken("gate 3;", 1);
    due("gate(0, 1)", none.gate(0, 1), NONE);
    due("gate(0, 2)", none.gate(0, 2), 0);
    for (int v = 0; v <= 5; v++) {
      KinGates x = taken(SIX + "gate 3 " + v + ";", 7);
      due("gate(0, 1)", x.gate(0, 1), v);
      due("gate(0, 2)", x.gate(0, 2), 0);
    }
    for (int v : new int[] {6, 9, 10, 50, 99}) {
      refused(SIX + "gate 3 " + v + ";", 3, 43);
    }
    sentence = "gate: a line of one NUMBER or two";
    refused("gate", 2, 4);
    refused("gate;", 2, 4);
    refused("gate 3", 2, 6);
    refused("gate 3 0", 2, 8);
    refused("gate 3 0 0;", 2, 9);
    refused("gate gate;", 2, 5);
  }

  private static void planTold() {
    String place = SIX + THREE_GATES;
    sentence = "THE PLAN: ACTS (8 at most); FAULT 5 a 9th ACT (it, whether it is one or not)";
    due("rule(4)", taken(place + "plan;", 10).rule(4), 0);
    due("rule(4)", taken(place + "plan 0 0 0 0 0 0 0 0;", 10).rule(4), 8);
    String eight = "plan 0 0 0 0 0 0 0 0 ";
    refused(eight + "0;", 5, 21);
    refused(eight + "52;", 5, 21);
    refused(eight + "3;", 5, 21);
    refused(eight + "60;", 5, 21);
    refused(eight + "99;", 5, 21);
    refused(eight + "100;", 1, 21);
    refused(eight + "plan;", 2, 21);
    refused(eight, 2, 21);
    refused("plan 0 0 0 0 0 0 0 3 0;", 3, 19);
    sentence = "plan: tens 0 to 5, ones 0 to 2; FAULT 3 out of its bounds";
    for (int act = 0; act <= 99; act++) {
      if (act / 10 <= 5 && act % 10 <= 2) {
        due("act(0)", taken(place + "plan " + act + ";", 10).act(0), act);
      } else {
        refused(place + "plan " + act + ";", 3, 62);
      }
    }
    due("act(0)", taken(place + "plan 02;", 10).act(0), 2);
    sentence = "FAULT 4: plan for the second time (its NAME)";
    refused("plan;plan;", 4, 5);
    refused("plan;gate 1;  plan 123;", 4, 14);
    refused("plan 3;plan;", 3, 5);
    KinGates again = taken("plan;", 1);
    put(again, "plan;");
    due("text(), a plan in another text", again.text(), 1);
    put(again, "plan;plan;");
    again.text();
    put(again, "plan;");
    due("text(), a plan behind a refused text", again.text(), 1);
  }

  /** What is due of a text of one byte alone. */
  private static int faultOfByte(int c) {
    if (c == ' ') {
      return 0;
    }
    return c == ';' || c >= '0' && c <= '9' || c >= 'a' && c <= 'z' ? 2 : 1;
  }

  private static void tokens() {
    sentence = "THE TAPE has 160 bytes, places from 0";
    taken("", 0);
    taken(" ".repeat(160), 0);
    taken(" ".repeat(154) + "plain;", 1);
    taken("plain;" + " ".repeat(154), 1);
    refused(" ".repeat(159) + "A", 1, 159);
    refused(" ".repeat(160 - 5) + "plain", 2, 160);
    refused("z".repeat(160), 2, 0);
    refused("1".repeat(160), 1, 0);
    refused(";".repeat(160), 2, 0);
    refused(repeated("gate 1;", 2) + " ".repeat(130) + "plan 0;plain;A", 1, 157);
    refused("feud 0 1;" + " ".repeat(151), 6, 160);
    sentence = "TOKENS: blanks (32), NAMES (a .. z), NUMBERS, one ; FAULT 1: no TOKEN";
    for (int c = 0; c <= 127; c++) {
      KinGates x = new KinGates();
      x.feed(c);
      due("text() of byte " + c, x.text(), c == ' ' ? 0 : -10);
      due("fault() of byte " + c, x.fault(), faultOfByte(c));
      if (faultOfByte(c) == 1) {
        refused("plain" + (char) c + ";", 1, 5);
        refused("gate 1" + (char) c + ";", 1, 6);
        refused("plain;" + (char) c, 1, 6);
      }
    }
    sentence = "TOKENS, each as long as may be";
    taken("plain;plain0;marry0 1;feud1 0;gate9 0;plan 0 10;", 6);
    taken("plain;  plain   00  ;  ", 2);
    for (String name : new String[] {"plai", "plainn", "pla in", "planplain", "estranged", "marryy", "gat",
        "gates", "plainz", "zplain", "xlain", "olan", "plaix", "plann", "pla", "feu", "feuds", "adopte", "adopts", "bastar", "a", "z"}) {
      refused(name + ";", 2, 0);
    }
    sentence = "NUMBERS (1 or 2 figures); FAULT 1 a NUMBER that is too long (its first byte)";
    refused("plain;plain 000;", 1, 12);
    refused("plain;plain000;", 1, 11);
    refused("gate 100;", 1, 5);
    refused("gate 1 0000000000000000000000;", 1, 7);
    refused("gate 4294967297;", 1, 5);
    refused("plan 001;", 1, 5);
    refused("123", 1, 0);
  }

  private static void faultOrder() {
    sentence = "FAULTS, the first met as it is read (a TOKEN is read when the one before has been taken)";
    refused("plain A", 1, 6);
    refused("plain plain A", 2, 6);
    refused("plain 0 A", 3, 6);
    refused("plain; plain 0 A", 1, 15);
    refused("plain; plain 0 0 A", 2, 15);
    refused("gate 10 A", 3, 5);
    refused("gate 1 A", 1, 7);
    refused("gate 1 6 A", 3, 7);
    refused("gate 1 5 A", 1, 9);
    refused("marry 6 A", 3, 6);
    refused("marry 0 A", 1, 8);
    refused("feud 0 0 A", 3, 7);
    refused("feud 0 1 A", 1, 9);
    refused("feud 0 1 2 A", 2, 9);
    refused("plan 3 A", 3, 5);
    refused("plan 2 A", 1, 7);
    refused("plan plan A", 2, 5);
    refused("plan;plan A", 4, 5);
    refused("plain;A plain 0", 1, 6);
    refused("twin A", 2, 0);
    refused("7 A", 2, 0);
    refused("; A", 2, 0);
    refused("marry 0 1; gate 10;", 3, 16);
    sentence = "FAULT 2: a TOKEN that can not stand there (or the end: the length)";
    refused("plain", 2, 5);
    refused("plain   ", 2, 8);
    refused("plain;plain 0", 2, 13);
    refused("plain;plain 0  ", 2, 15);
    refused("plan", 2, 4);
    refused("plan 0 ", 2, 7);
    refused("marry ", 2, 6);
    refused(";", 2, 0);
    refused("plain;;", 2, 6);
    refused("plain; 0;", 2, 7);
    refused("plain;nobody;", 2, 6);
    sentence = "Behind all (the length): FAULT 6 a ONE, a GATE that there is not";
    refused("plain;marry 0 1;", 6, 16);
    refused("plain;marry 1 0; ", 6, 17);
    refused("plain;feud 0 1;", 6, 15);
    refused("plain;feud 5 0;", 6, 15);
    refused("plain;gate 0 1;", 6, 15);
    refused("gate 0 0;", 6, 9);
    refused("gate 0;plan 0;", 6, 14);
    refused("plain;plan 0;", 6, 13);
    refused("plain;gate 0;plan 1;", 6, 20);
    refused("plain;gate 0;plan 10;", 6, 21);
    refused("plain;gate 0;plan 0 0 0 0 0 0 0 2;", 6, 34);
    taken("marry 0 5;feud 5 0;gate 0 5;plan 52;" + SIX + "gate 0;gate 0;", 12);
    refused("marry 0 1;plain;A", 1, 16);
    refused("marry 0 1;plain", 2, 15);
  }

  private static void toldAnew() {
    sentence = "A text that is taken tells all, in place of what there was; nothing is SEEN; IMAGES are gone";
    KinGates x = told("plain;bastard 0;marry 0 1;feud 0 1;gate 9 0;plan 0 10;");
    due("go(0, 0)", x.go(0, 0), 1);
    x.keep(0);
    x.keep(1);
    x.see(0, false);
    x.sheet(0, 2, 3);
    due("text() of an empty TAPE", x.text(), 0);
    for (int what = 0; what <= 5; what++) {
      due("rule(" + what + ")", x.rule(what), 0);
    }
    due("count(0)", x.count(0), 0);
    due("count(1)", x.count(1), 0);
    due("back(0)", x.back(0), STATE);
    due("back(1)", x.back(1), STATE);
    due("count(3), SHEETS stay", x.count(3), 3);
    put(x, "plain;plain;gate 9;");
    due("text()", x.text(), 3);
    due("gate(0, 1)", x.gate(0, 1), NONE);
    due("gate(0, 2)", x.gate(0, 2), 0);
    due("one(1, 0)", x.one(1, 0), 0);
    due("one(1, 1)", x.one(1, 1), NONE);
    due("degree(0, 1)", x.degree(0, 1), NONE);
    x.set(0, 1, 0);
    x.marry(0, 1);
    due("go(1, 0), the FEUD is gone", x.go(1, 0), 1);
    x.parents(1);
    x.reaches(0);
    x.match(0, 0);
    put(x, "plain;gate 9;");
    due("text()", x.text(), 2);
    due("gate(0, 2), 0 at first", x.gate(0, 2), 0);
    due("rule(5)", x.rule(5), 0);
  }

  private static void whatStays() {
    sentence = "text tells PEOPLE, MARRIAGES, FEUDS, GATES, THE PLAN; SHEETS and torn() stay";
    KinGates x = told("plain;plain 0;gate 1;plan 0;");
    x.sheet(0, 1, 4);
    x.lay(0, 2, 1);
    due("read(0, 1, 2, 2)", x.read(0, 1, 2, 2), 1);
    due("torn()", x.torn(), 2);
    put(x, "plain;plain 0;gate 1;");
    due("text()", x.text(), 3);
    due("torn()", x.torn(), 2);
    due("count(3)", x.count(3), 4);
    due("read(0, 1, 2, 1)", x.read(0, 1, 2, 1), 1);
    due("gate(0, 1), the CELL is as it was laid", x.gate(0, 1), 1);
    sentence = "an IMAGE is of what a text tells alone: THE TAPE, fault(), SEEN, SHEETS, torn() stay";
    x.keep(0);
    put(x, "A");
    due("text()", x.text(), -10);
    x.see(0, false);
    due("read(0, 2, 0, 1)", x.read(0, 2, 0, 1), 0);
    x.lay(0, 0, 1);
    put(x, "plain");
    due("back(0)", x.back(0), 1);
    due("fault()", x.fault(), 1);
    due("torn()", x.torn(), 3);
    due("count(0)", x.count(0), 1);
    due("count(2)", x.count(2), 5);
    due("read(0, 1, 0, 1)", x.read(0, 1, 0, 1), 1);
    due("gate(0, 1), the CELL is as it was laid", x.gate(0, 1), 1);
    x.feed(';');
    due("text() of what was fed ahead", x.text(), 1);
  }

  // ---- Terms: gates

  private static void lettingThrough() {
    sentence = "A GATE lets a ONE THROUGH if LAST is nobody";
    KinGates x = told("plain;plain;feud 0 1;gate 0;");
    due("gate(0, 3), not linked, at FEUD", x.gate(0, 3), 3);
    due("gate(0, 3) where nobody is", told("gate 9;").gate(0, 3), 0);
    sentence = "or if their DEGREE is no more than REACH";
    KinGates y = told("plain;bastard 0;plain 0;estrange 0;estrange 3;plain 4;gate 0 0;");
    int[] degrees = {0, 0, 1, 4, 8, 9};
    for (int reach = 0; reach <= 9; reach++) {
      y.set(0, 0, reach);
      int bits = 0;
      for (int p = 0; p < 6; p++) {
        bits |= degrees[p] <= reach ? 1 << p : 0;
      }
      due("gate(0, 3) by REACH " + reach, y.gate(0, 3), bits);
    }
    KinGates far = told("plain;estrange 0;estrange 1;adopted 2;plain;gate 9 0;");
    due("gate(0, 3), DEGREE 10, not linked", far.gate(0, 3), 7);
    due("go(3, 0), DEGREE 10", far.go(3, 0), 0);
    due("go(4, 0), not linked", far.go(4, 0), 0);
    due("go(2, 0), DEGREE 8", far.go(2, 0), 1);
    sentence = "and no FEUD is between them";
    KinGates z = told("plain;bastard 0;bastard 0;feud 0 1;gate 9 0;gate 9 1;gate 9 2;");
    due("gate(0, 3), LAST is told first", z.gate(0, 3), 5);
    due("gate(1, 3), LAST is told second", z.gate(1, 3), 6);
    due("gate(2, 3), between others", z.gate(2, 3), 7);
    sentence = "Who is let THROUGH is LAST then, WENT is 1 more; who is not stays outside";
    due("go(1, 0)", z.go(1, 0), 0);
    due("gate(0, 1)", z.gate(0, 1), 0);
    due("gate(0, 2)", z.gate(0, 2), 0);
    due("go(0, 0), itself again", z.go(0, 0), 1);
    due("gate(0, 2)", z.gate(0, 2), 1);
    due("go(2, 0)", z.go(2, 0), 1);
    due("gate(0, 1)", z.gate(0, 1), 2);
    due("gate(0, 2)", z.gate(0, 2), 2);
    due("gate(1, 2)", z.gate(1, 2), 0);
  }

  private static void wentAtMost() {
    sentence = "WENT is 1 more (999 at most)";
    KinGates x = told("plain;gate 0;gate 0;gate 0;");
    x.sheet(0, 0, 40);
    for (int i = 0; i < 49; i++) {
      x.read(0, 0, 0, 20);
    }
    for (int i = 0; i < 18; i++) {
      x.go(0, 0);
    }
    due("gate(0, 2)", x.gate(0, 2), 998);
    due("rule(5)", x.rule(5), 998);
    due("go(0, 0)", x.go(0, 0), 1);
    due("gate(0, 2)", x.gate(0, 2), 999);
    due("go(0, 0), though no more are counted", x.go(0, 0), 1);
    due("gate(0, 2)", x.gate(0, 2), 999);
    due("read(0, 0, 0, 20)", x.read(0, 0, 0, 20), 20);
    due("gate(0, 2)", x.gate(0, 2), 999);
    due("gate(1, 2)", x.gate(1, 2), 0);
    for (int i = 0; i < 50; i++) {
      x.go(0, 1);
    }
    due("rule(5) of all GATES", x.rule(5), 1049);
    due("keep(0)", x.keep(0), 0);
    x.go(0, 2);
    due("rule(5)", x.rule(5), 1050);
    due("back(0)", x.back(0), 1049);
  }

  // ---- the text, what there is

  private static void newObject() {
    sentence = "Nobody, no GATES; SHEETS have nothing";
    KinGates x = new KinGates();
    for (int what = 0; what <= 5; what++) {
      due("rule(" + what + ")", x.rule(what), 0);
    }
    due("one(0, 0)", x.one(0, 0), BAD);
    due("gate(0, 0)", x.gate(0, 0), BAD);
    due("pair(0, 0)", x.pair(0, 0), BAD);
    due("pair(1, 0)", x.pair(1, 0), BAD);
    due("act(0)", x.act(0), BAD);
    due("fault()", x.fault(), 0);
    due("torn()", x.torn(), 0);
    due("end(0)", x.end(0), 0);
    due("cut(0)", x.cut(0), 0);
    due("forget(0)", x.forget(0), 0);
    due("runs(0)", x.runs(0), 0);
    due("runs(1)", x.runs(1), 0);
    due("runs(2)", x.runs(2), 0);
    due("runs(3)", x.runs(3), NONE);
    due("widen()", x.widen(), 0);
    due("apart(0)", x.apart(0), NONE);
    due("apart(1)", x.apart(1), NONE);
    due("mean(5, 0)", x.mean(5, 0), 0);
    due("mean(5, 1)", x.mean(5, 1), 1);
    int[] counts = {0, 0, 0, NONE, 0};
    for (int what = 0; what <= 4; what++) {
      due("count(" + what + ")", x.count(what), counts[what]);
    }
    for (int k = 0; k < 4; k++) {
      due("lay(" + k + ", 0, 0)", x.lay(k, 0, 0), -11);
      for (int lane = 0; lane <= 2; lane++) {
        due("read(" + k + ", " + lane + ", 0, 1)", x.read(k, lane, 0, 1), 0);
        due("torn()", x.torn(), 1);
      }
    }
    due("keep(0) of nobody", x.keep(0), 0);
    due("back(0) to nobody", x.back(0), 0);
    due("two objects are two", new KinGates().count(1), 0);
  }

  private static void feedAndEnd() {
    sentence = "feed: a byte (0 to 127); BAD; FULL: more than 160";
    KinGates x = new KinGates();
    badOutside("feed", 0, 127, x::feed);
    due("count(2)", x.count(2), 0);
    for (int i = 1; i <= 160; i++) {
      due("feed, the " + i + "th", x.feed(i <= 127 ? i - 1 : 127), i);
    }
    due("feed, the 161st", x.feed(32), FULL);
    due("feed, the 161st again", x.feed(0), FULL);
    due("count(2)", x.count(2), 160);
    due("end(159)", x.end(159), 160);
    due("feed, the 160th again", x.feed(32), 160);
    due("feed, the 161st", x.feed(32), FULL);
    x.text();
    due("feed behind text()", x.feed(32), 1);
    sentence = "end: THE TAPE keeps its first n bytes; BAD";
    KinGates y = new KinGates();
    due("end(0) of none", y.end(0), 0);
    badOutside("end of none", 0, 0, y::end);
    put(y, "plain;gate 1;xyz");
    badOutside("end of 16", 0, 16, y::end);
    due("end(16)", y.end(16), 16);
    due("end(13)", y.end(13), 16);
    badOutside("end of 13", 0, 13, y::end);
    due("count(2)", y.count(2), 13);
    due("text() of what is kept", y.text(), 2);
    put(y, "plain;");
    due("end(0)", y.end(0), 6);
    due("text() of none", y.text(), 0);
    due("rule(0)", y.rule(0), 0);
  }

  private static void whatThereIs() {
    KinGates x = told("plain;plain 0;marry 1 0;feud 0 1;feud 1 0;gate 1;gate 2;plan 0 11 10;");
    sentence = "rule: 0 to 5; BAD";
    badOutside("rule", 0, 5, x::rule);
    sentence = "one: of a ONE 0 to 4; BAD";
    badOutside("one p", 0, 1, p -> x.one(p, 0));
    badOutside("one p", 0, 1, p -> x.one(p, 4));
    badOutside("one what", 0, 4, w -> x.one(1, w));
    sentence = "one: 1 PARENT (NONE), 2 TIE (has it one or not), 3 children, 4 itself, too";
    KinGates y = told("estrange;bastard 0;plain;");
    due("one(0, 1)", y.one(0, 1), NONE);
    due("one(0, 2), it has none", y.one(0, 2), 4);
    due("one(1, 2), it has one", y.one(1, 2), 0);
    due("one(0, 3)", y.one(0, 3), 2);
    due("one(1, 3), none", y.one(1, 3), 0);
    due("one(0, 4), by DEGREE 0", y.one(0, 4), 3);
    due("one(1, 4)", y.one(1, 4), 3);
    due("one(2, 4), itself alone", y.one(2, 4), 4);
    KinGates far = told("plain;estrange 0;estrange 1;estrange 2;estrange 3;estrange 4;");
    due("one(0, 4), DEGREE 20", far.one(0, 4), 63);
    sentence = "gate: of a GATE 0 to 3; BAD";
    badOutside("gate g", 0, 1, g -> x.gate(g, 0));
    badOutside("gate g", 0, 1, g -> x.gate(g, 3));
    badOutside("gate what", 0, 3, w -> x.gate(1, w));
    sentence = "pair: the i-th MARRIAGE (kind 0), FEUD (1); BAD";
    due("pair(0, 0), the first told first", x.pair(0, 0), 10);
    due("pair(1, 0)", x.pair(1, 0), 1);
    due("pair(1, 1)", x.pair(1, 1), 10);
    badOutside("pair kind", 0, 1, k -> x.pair(k, 0));
    badOutside("pair of MARRIAGES", 0, 0, i -> x.pair(0, i));
    badOutside("pair of FEUDS", 0, 1, i -> x.pair(1, i));
    sentence = "act: the i-th ACT of THE PLAN (from 0); BAD";
    due("act(0)", x.act(0), 0);
    due("act(2)", x.act(2), 10);
    badOutside("act", 0, 2, x::act);
    sentence = "degree: BAD; NONE: they have none; of a ONE and itself it is 0";
    badOutside("degree p", 0, 1, p -> x.degree(p, 0));
    badOutside("degree q", 0, 1, q -> x.degree(0, q));
    badOutside("degree of both", 0, 1, q -> x.degree(q, q));
    due("degree(0, 2)", y.degree(0, 2), NONE);
    due("degree(2, 0)", y.degree(2, 0), NONE);
    due("degree(2, 2)", y.degree(2, 2), 0);
    due("degree(0, 5), the furthest", far.degree(0, 5), 20);
    due("degree(5, 0), the furthest", far.degree(5, 0), 20);
    sentence = "forebear: by PARENTS alone; each is its own forebear; BAD; NONE";
    badOutside("forebear p", 0, 1, p -> x.forebear(p, 0));
    badOutside("forebear q", 0, 1, q -> x.forebear(0, q));
    due("forebear(2, 2)", y.forebear(2, 2), 2);
    due("forebear(0, 2)", y.forebear(0, 2), NONE);
    due("forebear(5, 4), one of the two", far.forebear(5, 4), 4);
    due("forebear(0, 5), six deep", far.forebear(0, 5), 0);
    due("forebear, married alone", told("plain;plain;marry 0 1;").forebear(0, 1), NONE);
  }

  // ---- what is changed

  private static void altering() {
    KinGates x = told(SIX);
    sentence = "alter: KIND (what 0) of a ONE becomes v: what it was; BAD";
    badOutside("alter p, KIND", 0, 5, p -> x.alter(p, 0, 1));
    badOutside("alter what", 0, 1, w -> x.alter(5, w, 0));
    for (int p = 0; p < 6; p += 5) {
      int at = p;
      badOutside("alter KIND", 0, 3, v -> x.alter(at, 0, v));
      due("alter to KIND NONE", x.alter(p, 0, NONE), BAD);
      due("alter to KIND 3", x.alter(p, 0, 3), 0);
      due("alter to KIND 0", x.alter(p, 0, 0), 3);
    }
    sentence = "alter: PARENT (what 1; PARENT NONE, too): a ONE ahead of it by order; BAD";
    badOutside("alter p, PARENT", 0, 5, p -> x.alter(p, 1, NONE));
    for (int p = 0; p < 6; p++) {
      int was = NONE;
      for (int v = -9; v <= 9; v++) {
        boolean fits = v == NONE || v >= 0 && v < p;
        due("alter(" + p + ", 1, " + v + ")", x.alter(p, 1, v), fits ? was : BAD);
        was = fits ? v : was;
        due("one(" + p + ", 1)", x.one(p, 1), was);
      }
      due("alter(" + p + ", 1, HIGH)", x.alter(p, 1, HIGH), BAD);
      due("alter(" + p + ", 1, LOW)", x.alter(p, 1, LOW), BAD);
    }
  }

  private static void pairing() {
    sentence = "marry: a MARRIAGE more; BAD (also alike); FULL";
    KinGates x = told("plain;plain;plain;gate 0;");
    badOutside("marry p", 0, 2, p -> x.marry(p, 1));
    badOutside("marry q", 0, 2, q -> x.marry(1, q));
    for (int p = 0; p < 3; p++) {
      due("marry, alike", x.marry(p, p), BAD);
      due("feud, alike", x.feud(p, p), BAD);
    }
    due("marry(2, 0)", x.marry(2, 0), 1);
    due("marry(2, 0) again", x.marry(2, 0), 2);
    due("marry(0, 2)", x.marry(0, 2), 3);
    due("marry(0, 1)", x.marry(0, 1), FULL);
    due("degree(0, 1)", x.degree(0, 1), NONE);
    due("undo(0, 2)", x.undo(0, 2), 2);
    due("marry(0, 1) in its place", x.marry(0, 1), 3);
    due("marry(0, 1)", x.marry(0, 1), FULL);
    sentence = "feud: a FEUD more; BAD (also alike); FULL";
    badOutside("feud p", 0, 2, p -> x.feud(p, 1));
    badOutside("feud q", 0, 2, q -> x.feud(1, q));
    due("feud(2, 1)", x.feud(2, 1), 1);
    due("feud(2, 1) again", x.feud(2, 1), 2);
    due("feud(1, 2)", x.feud(1, 2), 3);
    due("feud(0, 1)", x.feud(0, 1), FULL);
    sentence = "undo: the i-th is no more (those behind it are one less): how many are left; BAD";
    badOutside("undo kind", 0, 1, k -> x.undo(k, 0));
    badOutside("undo of MARRIAGES", 0, 2, i -> x.undo(0, i));
    badOutside("undo of FEUDS", 0, 2, i -> x.undo(1, i));
    due("undo(0, 0)", x.undo(0, 0), 2);
    due("pair(0, 0)", x.pair(0, 0), 20);
    due("pair(0, 1)", x.pair(0, 1), 1);
    due("pair(0, 2)", x.pair(0, 2), BAD);
    due("undo(0, 2)", x.undo(0, 2), BAD);
    due("undo(0, 1)", x.undo(0, 1), 1);
    due("pair(0, 0)", x.pair(0, 0), 20);
    due("undo(0, 0)", x.undo(0, 0), 0);
    due("undo(0, 0) of none", x.undo(0, 0), BAD);
    due("rule(2), FEUDS stay", x.rule(2), 3);
  }

  private static void settingAndPlanning() {
    KinGates x = told("plain;plain;gate 5;gate 5;");
    sentence = "set: REACH (what 0) of a GATE becomes v (0 to 9): what it was; BAD";
    badOutside("set g", 0, 1, g -> x.set(g, 0, 1));
    badOutside("set what", 0, 1, w -> x.set(1, w, 0));
    badOutside("set REACH", 0, 9, v -> x.set(1, 0, v));
    due("set(1, 0, NONE)", x.set(1, 0, NONE), BAD);
    due("set(1, 0, 9)", x.set(1, 0, 9), 5);
    due("set(1, 0, 0)", x.set(1, 0, 0), 9);
    due("gate(1, 0)", x.gate(1, 0), 0);
    due("gate(0, 0), the other", x.gate(0, 0), 5);
    sentence = "set: LAST (what 1; LAST NONE, too) becomes v: what it was; BAD";
    for (int v = -9, was = NONE; v <= 9; v++) {
      boolean fits = v == NONE || v == 0 || v == 1;
      due("set(1, 1, " + v + ")", x.set(1, 1, v), fits ? was : BAD);
      was = fits ? v : was;
      due("gate(1, 1)", x.gate(1, 1), was);
    }
    due("set(1, 1, NONE)", x.set(1, 1, NONE), 1);
    due("set(1, 1, HIGH)", x.set(1, 1, HIGH), BAD);
    due("gate(1, 2), nobody went", x.gate(1, 2), 0);
    sentence = "plan: an ACT more (10 times a ONE and a GATE); BAD; FULL";
    for (int act = -20; act < 100; act++) {
      boolean fits = act >= 0 && act / 10 < 2 && act % 10 < 2;
      due("plan(" + act + ")", x.plan(act), fits ? 1 : BAD);
      if (fits) {
        due("act(0)", x.act(0), act);
        due("cut(0)", x.cut(0), 1);
      }
    }
    due("plan(LOW)", x.plan(LOW), BAD);
    due("plan(HIGH)", x.plan(HIGH), BAD);
    due("plan(256)", x.plan(256), BAD);
    for (int i = 1; i <= 8; i++) {
      due("plan(10), the " + i + "th", x.plan(10), i);
    }
    due("plan(0), the 9th", x.plan(0), FULL);
    sentence = "cut: THE PLAN has its first n ACTS alone: how many it had; BAD";
    badOutside("cut of 8", 0, 8, x::cut);
    due("cut(8)", x.cut(8), 8);
    due("cut(7)", x.cut(7), 8);
    badOutside("cut of 7", 0, 7, x::cut);
    due("plan(0), the 8th", x.plan(0), 8);
    due("plan(0), the 9th", x.plan(0), FULL);
    due("act(6)", x.act(6), 10);
    due("act(7)", x.act(7), 0);
    due("cut(0)", x.cut(0), 8);
    badOutside("cut of none", 0, 0, x::cut);
    due("act(0)", x.act(0), BAD);
    due("plan(1) without a GATE", told("plain;").plan(0), BAD);
    due("plan(0) without a ONE", told("gate 0;").plan(0), BAD);
  }

  // ---- going, lines

  private static void going() {
    KinGates x = told("plain;plain;gate 0;gate 0 1;plan 0 1 10 11;");
    sentence = "go: a ONE goes to a GATE; BAD";
    badOutside("go p", 0, 1, p -> x.go(p, 0));
    badOutside("go g", 0, 1, g -> x.go(0, g));
    due("rule(5)", x.rule(5), 0);
    sentence = "runs: THE PLAN from now on, 0 to 3; BAD";
    badOutside("runs", 0, 3, x::runs);
    due("runs(0)", x.runs(0), 9);
    due("runs(1)", x.runs(1), 2);
    due("runs(2)", x.runs(2), 3);
    due("runs(3)", x.runs(3), 1);
    sentence = "runs: the first ACT that is not let THROUGH (3; NONE)";
    x.cut(1);
    due("runs(3), all are", x.runs(3), NONE);
    x.cut(0);
    due("runs(3), no ACT", x.runs(3), NONE);
    KinGates eight = told("plain;plain;gate 0;plan 0 0 0 0 0 0 0 10;");
    due("runs(0), all but the 8th", eight.runs(0), 127);
    due("runs(3), the 8th", eight.runs(3), 7);
    eight.set(0, 1, 1);
    due("runs(0), the 8th alone", eight.runs(0), 128);
    due("runs(3), the first", eight.runs(3), 0);
    sentence = "ahead: LAST of a GATE then; BAD; NONE: nobody";
    badOutside("ahead", 0, 1, x::ahead);
    due("ahead(0), nobody", x.ahead(0), NONE);
    due("ahead(1), as it is", x.ahead(1), 1);
    due("ahead(0), the 8th went", eight.ahead(0), 1);
    KinGates fresh = told("plain;plain;gate 0;gate 0 1;plan 0 1;");
    due("ahead(0), ONE 0 went", fresh.ahead(0), 0);
    due("ahead(1), ONE 0 did not", fresh.ahead(1), 1);
    fresh.set(1, 1, 0);
    fresh.set(0, 1, 1);
    due("ahead(0), from now on", fresh.ahead(0), 1);
    fresh.marry(0, 1);
    fresh.set(0, 0, 1);
    due("ahead(0), from now on", fresh.ahead(0), 0);
    due("gate(0, 1), all is as it was", fresh.gate(0, 1), 1);
  }

  private static void lines() {
    sentence = "line: how many (what 0), ways (1); 10 and i: its i-th ONE (NONE: not so many); BAD";
    KinGates x = told("plain;bastard 0;plain;gate 0;gate 0 2;");
    badOutside("line g", 0, 1, g -> x.line(g, 0));
    badOutside("line g", 0, 1, g -> x.line(g, 10));
    for (int what = -12; what < 10; what++) {
      if (what != 0 && what != 1) {
        due("line(0, " + what + ")", x.line(0, what), BAD);
      }
    }
    due("line(0, LOW)", x.line(0, LOW), BAD);
    due("line(0, LOW + 10)", x.line(0, LOW + 10), BAD);
    due("line(0, 0)", x.line(0, 0), 2);
    due("line(0, 1)", x.line(0, 1), 2);
    due("line(0, 10)", x.line(0, 10), 0);
    due("line(0, 11)", x.line(0, 11), 1);
    due("line(0, 12)", x.line(0, 12), NONE);
    due("line(0, 16)", x.line(0, 16), NONE);
    due("line(0, HIGH)", x.line(0, HIGH), NONE);
    due("line(1, 0), LAST alone again", x.line(1, 0), 1);
    due("line(1, 1)", x.line(1, 1), 1);
    due("line(1, 10)", x.line(1, 10), 2);
    due("line(1, 11)", x.line(1, 11), NONE);
    KinGates all = told("plain;bastard 0;bastard 0;bastard 0;bastard 0;bastard 0;gate 0;");
    due("line(0, 0), all six", all.line(0, 0), 6);
    due("line(0, 1), 6 times 5 times 4 ..", all.line(0, 1), 720);
    due("line(0, 15), the sixth", all.line(0, 15), 5);
    due("line(0, 16)", all.line(0, 16), NONE);
    KinGates none = told("gate 9;");
    due("line(0, 0) of nobody", none.line(0, 0), 0);
    due("line(0, 10) of nobody", none.line(0, 10), NONE);
    sentence = "line: of several the first by rows";
    KinGates rows = told("plain;plain;plain 0;plain 1;gate 1;");
    due("line(0, 1)", rows.line(0, 1), 4);
    due("line(0, 10)", rows.line(0, 10), 0);
    due("line(0, 11)", rows.line(0, 11), 2);
  }

  private static void sending() {
    sentence = "send: how many (what 0); 10 and i: the i-th (NONE: not so many); BAD; NONE: by none";
    KinGates x = told("plain;plain 0;plain 1;plain 2;plain 3;plain 4;gate 1 0;gate 1;");
    badOutside("send p", 0, 5, p -> x.send(p, 0, 0));
    badOutside("send p", 0, 5, p -> x.send(p, 0, 10));
    badOutside("send g", 0, 1, g -> x.send(5, g, 0));
    for (int what = -12; what < 10; what++) {
      if (what != 0) {
        due("send(5, 0, " + what + ")", x.send(5, 0, what), BAD);
      }
    }
    due("send(5, 0, LOW)", x.send(5, 0, LOW), BAD);
    due("send(5, 0, 0), four of five others", x.send(5, 0, 0), 4);
    for (int i = 0; i < 4; i++) {
      due("send(5, 0, " + (10 + i) + ")", x.send(5, 0, 10 + i), i + 1);
    }
    due("send(5, 0, 14)", x.send(5, 0, 14), NONE);
    due("send(5, 0, HIGH)", x.send(5, 0, HIGH), NONE);
    due("send(0, 0, 0), itself", x.send(0, 0, 0), 0);
    due("send(1, 0, 0), none is needed", x.send(1, 0, 0), 0);
    due("send(1, 0, 10), none is needed", x.send(1, 0, 10), NONE);
    due("send(5, 1, 0), nobody is LAST", x.send(5, 1, 0), 0);
    x.feud(4, 5);
    due("send(5, 0, 0), by none", x.send(5, 0, 0), NONE);
    due("send(5, 0, 10), by none", x.send(5, 0, 10), NONE);
    due("send(4, 0, 0)", x.send(4, 0, 0), 3);
    sentence = "send: the fewest others";
    KinGates back = told("plain;plain 0;plain 0;feud 1 2;gate 2 1;");
    due("send(2, 0, 0), by way of 0", back.send(2, 0, 0), 1);
    due("send(2, 0, 10)", back.send(2, 0, 10), 0);
    KinGates first = told("plain;plain 0;plain 0;plain 2;plain 1;marry 3 4;gate 1 1;");
    due("send(3, 0, 0), by way of 4, not of 0 and 2", first.send(3, 0, 0), 1);
    due("send(3, 0, 10)", first.send(3, 0, 10), 4);
    due("send(2, 0, 10), by way of 0", first.send(2, 0, 10), 0);
    first.undo(0, 0);
    due("send(3, 0, 0), by way of 0 and 2", first.send(3, 0, 0), 2);
    due("send(3, 0, 10)", first.send(3, 0, 10), 0);
    due("send(3, 0, 11)", first.send(3, 0, 11), 2);
    due("send(3, 0, 12)", first.send(3, 0, 12), NONE);
  }

  private static void matching() {
    sentence = "match: the MARRIAGE more, more than now, of several the least; BAD; FULL; NONE: by none";
    KinGates x = told("plain;plain;plain;gate 1;gate 0;gate 1 2;");
    badOutside("match g", 0, 2, g -> x.match(g, 0));
    badOutside("match what", 0, 1, w -> x.match(0, w));
    due("match(0, 0), of several the least", x.match(0, 0), 1);
    due("match(0, 1)", x.match(0, 1), 2);
    due("match(1, 0), a MARRIAGE is too far", x.match(1, 0), NONE);
    due("match(1, 1), a MARRIAGE is too far", x.match(1, 1), NONE);
    due("match(2, 0), with LAST alone", x.match(2, 0), 2);
    x.marry(0, 1);
    x.marry(0, 1);
    due("match(0, 0), one place is left", x.match(0, 0), 2);
    due("match(0, 1), one place is left", x.match(0, 1), 3);
    x.marry(0, 1);
    due("match(0, 0)", x.match(0, 0), FULL);
    due("match(1, 1)", x.match(1, 1), FULL);
    KinGates all = told("plain;plain 0;gate 1;");
    due("match(0, 0), all go now", all.match(0, 0), NONE);
    due("match(0, 1), all go now", all.match(0, 1), NONE);
    due("match(0, 0) of one alone", told("plain;gate 9;").match(0, 0), NONE);
    due("match(0, 1) of nobody", told("gate 9;").match(0, 1), NONE);
  }

  private static void widenAndApart() {
    sentence = "widen: REACH 1 more would let more ONES THROUGH now than REACH does";
    KinGates x = told("plain;plain 0;adopted 0;gate 0 0;gate 2 0;gate 0;");
    due("widen()", x.widen(), 1);
    x.set(1, 0, 1);
    due("widen(), just one short", x.widen(), 3);
    x.set(2, 1, 2);
    due("widen(), two short", x.widen(), 3);
    x.set(2, 0, 1);
    due("widen(), all three", x.widen(), 7);
    KinGates nine = told("plain;estrange 0;estrange 1;adopted 2;gate 9 0;gate 9 1;gate 9 3;");
    due("widen() by REACH 9", nine.widen(), 5);
    sentence = "apart: two ONES of the greatest DEGREE; BAD; NONE: there are none who are linked";
    badOutside("apart", 0, 1, nine::apart);
    due("apart(0)", nine.apart(0), 3);
    due("apart(1)", nine.apart(1), 10);
    KinGates zero = told("plain;plain;bastard 1;plain;bastard 0;");
    due("apart(0), DEGREE 0, of several the least", zero.apart(0), 4);
    due("apart(1), DEGREE 0", zero.apart(1), 0);
    KinGates one = told("plain;");
    due("apart(0) of one alone", one.apart(0), NONE);
    due("apart(1) of one alone", one.apart(1), NONE);
    KinGates six = told(SIX);
    due("apart(0), none linked", six.apart(0), NONE);
    due("apart(1), none linked", six.apart(1), NONE);
    six.marry(5, 4);
    due("apart(0), the last two", six.apart(0), 45);
    due("apart(1), the last two", six.apart(1), 1);
  }

  // ---- who stays away, whose child, how far

  private static void stayingAway() {
    sentence = "mean: v out of ten (0 to 10); 0, 1; BAD";
    KinGates x = told("plain;plain;gate 0;plan 0 10 0 10 0 10 0 10;");
    badOutside("mean v", 0, 10, v -> (int) x.mean(v, 0));
    badOutside("mean what", 0, 1, w -> (int) x.mean(5, w));
    due("mean(0, 0), nobody stays away", x.mean(0, 0), 4);
    due("mean(0, 1)", x.mean(0, 1), 1);
    due("mean(10, 0), all stay away", x.mean(10, 0), 0);
    due("mean(10, 1)", x.mean(10, 1), 1);
    due("mean(5, 0)", x.mean(5, 0), 3);
    due("mean(5, 1)", x.mean(5, 1), 1);
    sentence = "luck: likewise, of a ONE; BAD";
    badOutside("luck v", 0, 10, v -> (int) x.luck(v, 0, 0));
    badOutside("luck v", 0, 10, v -> (int) x.luck(v, 1, 0));
    badOutside("luck v", 0, 10, v -> (int) x.luck(v, 1, 1));
    badOutside("mean v", 0, 10, v -> (int) x.mean(v, 1));
    badOutside("luck p", 0, 1, p -> (int) x.luck(5, p, 0));
    badOutside("luck what", 0, 1, w -> (int) x.luck(5, 1, w));
    due("luck(0, 0, 0)", x.luck(0, 0, 0), 1);
    due("luck(0, 1, 0)", x.luck(0, 1, 0), 0);
    due("luck(10, 0, 0)", x.luck(10, 0, 0), 0);
    due("luck(10, 0, 1)", x.luck(10, 0, 1), 1);
    due("luck(5, 1, 0)", x.luck(5, 1, 0), 1);
    due("luck(5, 1, 1)", x.luck(5, 1, 1), 4);
  }

  private static void seeing() {
    sentence = "see: the i-th ACT (0 to 7); SEEN (6); BAD; FULL";
    KinGates x = told("plain;plain;gate 0;plan 0 10;");
    badOutside("see", 0, 7, i -> x.see(i, false));
    due("count(0)", x.count(0), 0);
    for (int i = 1; i <= 6; i++) {
      due("see, the " + i + "th", x.see(i == 1 ? 0 : 7, i == 1), i);
    }
    due("see, the 7th", x.see(0, true), FULL);
    due("forget(5)", x.forget(5), 6);
    due("see(7, false), the 6th again", x.see(7, false), 6);
    due("see, the 7th", x.see(7, false), FULL);
    due("reaches(0), all as SEEN", x.reaches(0), 1023);
    sentence = "see: behind THE PLAN's last one: not";
    x.forget(0);
    x.see(2, false);
    due("reaches(0)", x.reaches(0), 1023);
    due("parents(1)", x.parents(1), 65);
    x.see(2, true);
    due("reaches(0)", x.reaches(0), 0);
    due("parents(1)", x.parents(1), 0);
    due("look(1, 0)", x.look(1, 0), NONE);
    sentence = "SEEN is of THE PLAN as it is then";
    x.forget(0);
    x.see(2, true);
    x.plan(0);
    due("reaches(0), the ACT is there now", x.reaches(0), 1023);
    sentence = "forget: SEEN are the first n alone: how many there were; BAD";
    x.see(1, true);
    badOutside("forget of 2", 0, 2, x::forget);
    due("forget(2)", x.forget(2), 2);
    due("reaches(0)", x.reaches(0), 0);
    due("forget(1)", x.forget(1), 2);
    due("reaches(0)", x.reaches(0), 1023);
    badOutside("forget of 1", 0, 1, x::forget);
    due("forget(0)", x.forget(0), 1);
    badOutside("forget of none", 0, 0, x::forget);
  }

  private static void guessing() {
    KinGates x = told("plain;plain;plain;plain;plain;bastard;gate 0 0;gate 0 4;gate 9 5;plan 50 51 12;");
    sentence = "parents: PARENTS that a ONE may have (bits; 64 more: none); BAD";
    badOutside("parents", 0, 5, x::parents);
    for (int p = 0; p < 6; p++) {
      due("parents(" + p + "), nothing SEEN", x.parents(p), 64 + (1 << p) - 1);
    }
    sentence = "look: fewest are left at the worst, fewer than now, the first; BAD; NONE: none";
    badOutside("look p", 0, 5, p -> x.look(p, 0));
    badOutside("look what", 0, 1, w -> x.look(5, w));
    due("look(5, 0), the first of several", x.look(5, 0), 0);
    due("look(5, 1), one of six parted", x.look(5, 1), 5);
    due("look(0, 0), one PARENT alone", x.look(0, 0), NONE);
    due("look(0, 1), one PARENT alone", x.look(0, 1), NONE);
    x.see(0, true);
    due("parents(5), of 0 alone", x.parents(5), 1);
    due("look(5, 0), one is left", x.look(5, 0), NONE);
    x.see(1, true);
    due("parents(5), of none at all", x.parents(5), 0);
    due("look(5, 0), none is left", x.look(5, 0), NONE);
    due("look(5, 1), none is left", x.look(5, 1), NONE);
    x.forget(0);
    x.see(0, false);
    x.see(1, false);
    due("parents(5), not of 0, not of 4", x.parents(5), 64 + 14);
    due("look(5, 0): of 1 or not", x.look(5, 0), 2);
    due("look(5, 1)", x.look(5, 1), 3);
    x.cut(0);
    x.forget(0);
    due("look(5, 0), no ACT", x.look(5, 0), NONE);
    due("one(5, 1), all is as it was", x.one(5, 1), NONE);
    KinGates most = told("plain;plain;plain;plain 0;gate 9 0;plan 0 10 20 30;");
    most.see(0, true);
    due("parents(3), ONE 0 went as SEEN", most.parents(3), 64 + 7);
    due("look(3, 0): of 0, or of another", most.look(3, 0), 3);
    due("look(3, 1)", most.look(3, 1), 3);
    most.marry(0, 1);
    most.marry(1, 2);
    most.marry(0, 2);
    due("look(3, 0): all but of none", most.look(3, 0), 3);
    due("look(3, 1), most are left if it is let THROUGH", most.look(3, 1), 3);
    most.see(3, true);
    due("parents(3), of any", most.parents(3), 7);
    sentence = "reaches: REACHES (0 to 9; bits) of a GATE; BAD";
    KinGates y = told("plain;estrange 0;estrange 1;plain 2;gate 9 0;gate 3 3;plan 30 20;");
    badOutside("reaches", 0, 1, y::reaches);
    due("reaches(0), nothing SEEN", y.reaches(0), 1023);
    y.see(0, true);
    due("reaches(0), DEGREE 9", y.reaches(0), 512);
    due("reaches(1), of no ACT", y.reaches(1), 1023);
    y.see(0, false);
    due("reaches(0), none", y.reaches(0), 0);
    y.forget(0);
    y.see(0, false);
    due("reaches(0), below 9", y.reaches(0), 511);
    due("reaches(1), all else as it is", y.reaches(1), 0);
    y.see(1, false);
    due("reaches(0), below 8", y.reaches(0), 255);
    due("gate(0, 0), all is as it was", y.gate(0, 0), 9);
  }

  // ---- by a seed

  private static int drawn(int seed, int times) {
    long s = seed & 0xffffffffL;
    for (int i = 0; i < times; i++) {
      s = (s * 1103515245L + 12345L) % (1L << 32);
    }
    return (int) (s / 65536 % 32768);
  }

  private static void drifting() {
    sentence = "drift: n times (1 to 60); 0, 1; BAD; STATE: there is nobody, no GATE";
    KinGates x = told("plain;gate 0;");
    badOutside("drift n", 1, 60, n -> x.drift(1, n, 0));
    badOutside("drift what", 0, 1, w -> x.drift(1, 1, w));
    due("drift(1, 1, 0)", x.drift(1, 1, 0), 1);
    due("drift(1, 60, 0)", x.drift(1, 60, 0), 60);
    due("drift(1, 60, 1)", x.drift(1, 60, 1), 0);
    due("rule(5), by itself", x.rule(5), 0);
    due("gate(0, 1), by itself", x.gate(0, 1), NONE);
    due("drift, no GATE", told("plain;").drift(1, 1, 0), STATE);
    due("drift, nobody", told("gate 0;").drift(1, 1, 1), STATE);
    due("drift, nothing", new KinGates().drift(1, 60, 1), STATE);
    sentence = "drift: the seed becomes seed times 1103515245 and 12345; bits 16 to 30 of it";
    int[] seeds = {LOW, HIGH, -1, 0, 1, LOW + 1, 65536, -65536, 123456789, -987654321};
    KinGates y = told(SIX + "gate 0;gate 0;gate 0;");
    for (int seed : seeds) {
      int p = drawn(seed, 1) % 6;
      int g = drawn(seed, 2) % 3;
      due("drift(" + seed + ", 1, 1)", y.drift(seed, 1, 1), g == 0 ? p : NONE);
      boolean again = drawn(seed, 4) % 3 != g || drawn(seed, 3) % 6 == p;
      due("drift(" + seed + ", 2, 0)", y.drift(seed, 2, 0), again ? 2 : 1);
    }
    sentence = "drift: LAST of GATE 0 in the end (1; NONE)";
    int seed = 0;
    while (drawn(seed, 2) % 3 == 0) {
      seed++;
    }
    due("drift, to another GATE", y.drift(seed, 1, 1), NONE);
    y.set(0, 1, 4);
    due("drift, LAST stays", y.drift(seed, 1, 1), 4);
  }

  // ---- images, sheets

  private static void images() {
    sentence = "keep: IMAGE k (0, 1): whether there was one (1, 0); BAD";
    KinGates x = told("plain;plain 0;gate 1;plan 0;");
    badOutside("keep", 0, 1, x::keep);
    due("count(1)", x.count(1), 0);
    due("keep(1)", x.keep(1), 0);
    due("keep(1)", x.keep(1), 1);
    due("count(1)", x.count(1), 1);
    sentence = "back: BAD; STATE: there is none";
    badOutside("back", 0, 1, x::back);
    due("back(0)", x.back(0), STATE);
    x.go(0, 0);
    due("keep(0)", x.keep(0), 0);
    due("count(1)", x.count(1), 2);
    x.go(1, 0);
    x.see(0, true);
    put(x, "pla");
    due("back(0), how many went", x.back(0), 1);
    due("gate(0, 1)", x.gate(0, 1), 0);
    due("count(0), SEEN stays", x.count(0), 1);
    due("count(2), THE TAPE stays", x.count(2), 3);
    due("count(1), IMAGES stay", x.count(1), 2);
    due("back(1)", x.back(1), 0);
    due("gate(0, 1)", x.gate(0, 1), NONE);
    due("back(0) once more", x.back(0), 1);
    x.go(1, 0);
    due("keep(0), in place of what it was", x.keep(0), 1);
    x.back(1);
    due("back(0), the latest", x.back(0), 2);
    due("gate(0, 1)", x.gate(0, 1), 1);
    sentence = "keep: all of them, back: all is as IMAGE k";
    KinGates all = told("plain;adopted 0;bastard 0;estrange 0;plain 0;plain 0;gate 1;gate 2 2;gate 3 3;"
        + "plan 0 11 22 30 41 52 1 2;");
    for (int i = 0; i < 3; i++) {
      all.marry(i, i + 1);
      all.feud(i, i + 1);
    }
    all.keep(1);
    for (int p = 1; p < 6; p++) {
      all.alter(p, 0, 3 - all.one(p, 0));
      all.alter(p, 1, NONE);
    }
    for (int i = 0; i < 3; i++) {
      all.undo(0, 0);
      all.undo(1, 0);
      all.set(i, 0, 9);
      all.set(i, 1, NONE);
      all.go(5, i);
    }
    all.cut(0);
    due("back(1)", all.back(1), 0);
    int[] kinds = {0, 1, 2, 3, 0, 0};
    int[] acts = {0, 11, 22, 30, 41, 52, 1, 2};
    int[] pairs = {1, 12, 23};
    int[] lasts = {NONE, 2, 3};
    for (int p = 0; p < 6; p++) {
      due("one(" + p + ", 0)", all.one(p, 0), kinds[p]);
      due("one(" + p + ", 1)", all.one(p, 1), p == 0 ? NONE : 0);
    }
    for (int i = 0; i < 8; i++) {
      due("act(" + i + ")", all.act(i), acts[i]);
    }
    for (int i = 0; i < 3; i++) {
      due("pair(0, " + i + ")", all.pair(0, i), pairs[i]);
      due("pair(1, " + i + ")", all.pair(1, i), pairs[i]);
      due("gate(" + i + ", 0)", all.gate(i, 0), i + 1);
      due("gate(" + i + ", 1)", all.gate(i, 1), lasts[i]);
      due("gate(" + i + ", 2)", all.gate(i, 2), 0);
    }
  }

  private static void sheets() {
    sentence = "SHEETS 0 to 3, lanes 0 to 2, 0 to 40 CELLS; sheet: BAD: also n above 40; -10 - 4";
    KinGates x = told("plain;gate 0;");
    badOutside("sheet k", 0, 3, k -> x.sheet(k, 0, 1));
    badOutside("sheet lane", 0, 2, lane -> x.sheet(0, lane, 1));
    for (int n : new int[] {41, 42, 256, 65536, HIGH}) {
      due("sheet(0, 0, " + n + ")", x.sheet(0, 0, n), BAD);
    }
    for (int n : new int[] {-1, -2, -256, LOW + 40, LOW}) {
      due("sheet(0, 0, " + n + ")", x.sheet(0, 0, n), -14);
    }
    due("count(3), still nothing", x.count(3), NONE);
    for (int lane = 0; lane <= 2; lane++) {
      for (int n : new int[] {0, 1, 39, 40}) {
        due("sheet(0, " + lane + ", " + n + ")", x.sheet(0, lane, n), 1);
        due("count(3)", x.count(3), n);
        due("lay right behind", x.lay(0, n, 0), -12);
        due("lay at the last", x.lay(0, n - 1, 0), n == 0 ? -12 : 1);
      }
    }
    sentence = "a SHEET is a new row of CELLS 0";
    x.sheet(3, 2, 40);
    for (int i = 0; i < 40; i++) {
      x.lay(3, i, 7);
    }
    due("read(3, 2, 0, 20)", x.read(3, 2, 0, 20), -20);
    x.sheet(3, 2, 40);
    due("read(3, 2, 0, 20), all CELLS are 0", x.read(3, 2, 0, 20), 20);
    x.lay(3, 39, 7);
    due("read(3, 2, 0, 20), the last CELL", x.read(3, 2, 0, 20), -39);
    x.sheet(3, 2, 2);
    x.sheet(3, 2, 40);
    due("read(3, 2, 0, 20), all CELLS are 0", x.read(3, 2, 0, 20), 20);
  }

  private static void laying() {
    sentence = "lay: BAD: k; -10 less the FAULT: NULL, INDEX";
    KinGates x = told("plain;plain 0;gate 1;");
    badOutside("lay k", 0, 3, k -> x.lay(k, 0, 0));
    due("lay(2, 0, 0) of nothing", x.lay(2, 0, 0), -11);
    due("lay(2, -1, 0), NULL ahead of INDEX", x.lay(2, -1, 0), -11);
    x.sheet(2, 1, 2);
    for (int i : new int[] {-1, 2, 3, 256, 65536, LOW, HIGH}) {
      due("lay(2, " + i + ", 0)", x.lay(2, i, 0), -12);
    }
    due("lay(2, 1, 0)", x.lay(2, 1, 0), 1);
    due("lay(1, 0, 0), another SHEET", x.lay(1, 0, 0), -11);
    sentence = "lay: CELL i becomes v (its lowest bits)";
    int[] values = {1, 257, -255, 255, 128, 65537, 65792, -65535, 1 << 31 | 1, 511};
    int[][] fits = {{1, 1, 1}, {1, 0, 0}, {1, 0, 0}, {0, 0, 0}, {0, 0, 0}, {1, 1, 0}, {1, 0, 0}, {1, 1, 0},
        {1, 1, 0}, {0, 0, 0}};
    for (int lane = 0; lane <= 2; lane++) {
      x.sheet(0, lane, 2);
      for (int k = 0; k < values.length; k++) {
        x.set(0, 1, NONE);
        due("lay(0, 0, " + values[k] + ")", x.lay(0, 0, values[k]), 1);
        due("read of it in lane " + lane, x.read(0, lane, 0, 1), fits[k][lane] == 1 ? 1 : -20);
        due("gate(0, 1)", x.gate(0, 1), fits[k][lane] != 1 ? NONE : values[k] == 65792 ? 0 : 1);
      }
    }
  }

  private static void reading() {
    sentence = "read: n (0 to 20); BAD: k, lane, n";
    KinGates x = told("plain;bastard 0;plain;gate 0;gate 0;");
    x.sheet(0, 0, 40);
    badOutside("read k", 0, 3, k -> x.read(k, 0, 0, 1));
    badOutside("read lane", 0, 2, lane -> x.read(0, lane, 0, 1));
    badOutside("read n", 0, 20, n -> x.read(0, 0, 0, n));
    due("read(0, 0, 0, 0)", x.read(0, 0, 0, 0), 0);
    due("rule(5)", x.rule(5), 0);
    due("read(0, 0, 0, 20)", x.read(0, 0, 0, 20), 20);
    due("rule(5)", x.rule(5), 20);
    sentence = "read: what the machine refuses: those that were whole ahead did; torn()";
    for (int f = 0; f <= 40; f++) {
      due("read(0, 0, " + f + ", 20)", x.read(0, 0, f, 20), (40 - f) / 2);
      due("torn()", x.torn(), f == 0 ? 0 : 2);
    }
    for (int f : new int[] {-1, -2, LOW, LOW + 2, HIGH, HIGH - 1, HIGH - 38}) {
      due("read(0, 0, " + f + ", 20)", x.read(0, 0, f, 20), 0);
      due("torn()", x.torn(), 2);
    }
    x.read(0, 0, 0, 1);
    due("torn() behind one without FAULT", x.torn(), 0);
    due("read(0, 1, 0, 1), another lane", x.read(0, 1, 0, 1), 0);
    due("torn()", x.torn(), 3);
    due("read(0, 2, -1, 1), CAST ahead of INDEX", x.read(0, 2, -1, 1), 0);
    due("torn()", x.torn(), 3);
    due("read(1, 0, -1, 1), NULL ahead of INDEX", x.read(1, 0, -1, 1), 0);
    due("torn()", x.torn(), 1);
    x.sheet(1, 1, 1);
    due("read(1, 1, 0, 1), half a goer", x.read(1, 1, 0, 1), 0);
    due("torn()", x.torn(), 2);
    x.sheet(1, 1, 0);
    due("read(1, 2, 0, 1), CAST of a row without CELLS", x.read(1, 2, 0, 1), 0);
    due("torn()", x.torn(), 3);
  }

  private static void readingBad() {
    sentence = "read: -20 less i: the i-th, whole, is BAD: then none did; the first met";
    KinGates x = told("plain;bastard 0;plain;gate 0;gate 0;");
    x.sheet(1, 2, 40);
    int[][] bad = {{3, 0}, {-1, 0}, {0, 2}, {0, -1}, {LOW, 0}, {0, HIGH}, {NONE, 0}, {0, NONE}, {256, 0}};
    for (int[] cells : bad) {
      for (int i = 0; i < 20; i += 19) {
        x.lay(1, 2 * i, cells[0]);
        x.lay(1, 2 * i + 1, cells[1]);
        due("read, the " + i + "th is BAD", x.read(1, 2, 0, 20), -20 - i);
        due("rule(5), none did", x.rule(5), 0);
        x.lay(1, 2 * i, 0);
        x.lay(1, 2 * i + 1, 0);
      }
    }
    x.lay(1, 38, 9);
    due("read(1, 2, 0, 19), behind them", x.read(1, 2, 0, 19), 19);
    x.lay(1, 4, 9);
    due("read(1, 2, 0, 20), the first of two", x.read(1, 2, 0, 20), -22);
    due("read(1, 2, 2, 20), the first of two", x.read(1, 2, 2, 20), -21);
    due("read(1, 2, 4, 20)", x.read(1, 2, 4, 20), -20);
    due("read(1, 1, 4, 20), CAST ahead of BAD", x.read(1, 1, 4, 20), 0);
    due("torn()", x.torn(), 3);
    due("read(1, 2, 38, 2), BAD ahead of INDEX", x.read(1, 2, 38, 2), -20);
    sentence = "torn: the FAULT of the latest read() that came to an end";
    due("torn() behind -20", x.torn(), 3);
    x.lay(1, 39, 9);
    due("read(1, 2, 39, 1), BAD, but not whole", x.read(1, 2, 39, 1), 0);
    due("torn()", x.torn(), 2);
    due("read(1, 3, 0, 1)", x.read(1, 3, 0, 1), BAD);
    due("torn() behind BAD", x.torn(), 2);
    due("read(1, 2, 6, 0), none is asked", x.read(1, 2, 6, 0), 0);
    due("torn() behind none", x.torn(), 0);
    sentence = "read: how many went to them, let THROUGH or not";
    KinGates y = told("plain;bastard 0;plain;gate 0;");
    y.sheet(0, 1, 6);
    y.lay(0, 0, 1);
    y.lay(0, 2, 2);
    due("read(0, 1, 0, 3)", y.read(0, 1, 0, 3), 3);
    due("gate(0, 1)", y.gate(0, 1), 0);
    due("gate(0, 2), 2 stays outside", y.gate(0, 2), 2);
  }

  private static void counting() {
    sentence = "count: 0 to 4 (3: NONE: nothing); BAD";
    KinGates x = told("plain;plain;plain 1;");
    badOutside("count", 0, 4, x::count);
    due("count(3), nothing", x.count(3), NONE);
    x.sheet(1, 0, 5);
    x.sheet(0, 0, 0);
    due("count(3), no CELLS", x.count(3), 0);
    due("count(4)", x.count(4), 2);
    x.alter(2, 1, NONE);
    due("count(4), all", x.count(4), 3);
    due("count(4), all six", told(SIX).count(4), 6);
    due("count(4), one alone", told("plain;plain 0;plain 0;plain 0;plain 0;plain 0;").count(4), 1);
    KinGates full = full();
    due("count(0)", full.count(0), 6);
    due("count(2)", full.count(2), 160);
  }

  public static void main(String[] args) {
    firstThatFits();
    fractions();
    people();
    pairsTold();
    gatesTold();
    planTold();
    tokens();
    faultOrder();
    toldAnew();
    whatStays();
    lettingThrough();
    wentAtMost();
    newObject();
    feedAndEnd();
    whatThereIs();
    altering();
    pairing();
    settingAndPlanning();
    going();
    lines();
    sending();
    matching();
    widenAndApart();
    stayingAway();
    seeing();
    guessing();
    drifting();
    images();
    sheets();
    laying();
    reading();
    readingBad();
    counting();
    System.out.println(asked + " answers asked, " + wrong + " not as due");
    if (wrong != 0) {
      System.exit(1);
    }
  }
}
