/** For each promise of the document: ordinary inputs, the edges that it names, wrong inputs. */
public final class KinGatesPromises {
  private static final int BAD = -1, STATE = -2, FULL = -3, NONE = -4;
  private static final int LOW = Integer.MIN_VALUE, HIGH = Integer.MAX_VALUE;

  /**
   * Degrees here: 0-1 1, 0-2 2, 0-3 1, 0-4 2, 1-2 3, 1-3 0, 1-4 1, 2-3 3, 2-4 4, 3-4 1 (by marriage).
   */
  private static final String HOUSE = "plain;plain 0;adopted 0;bastard 1;estrange 2;marry 3 4;"
      + "feud 0 3;gate 2;gate 1 3;plan 0 10 30 31 20 41;";

  private static int wrong = 0;
  private static int asked = 0;
  private static int promise = 0;

  private static void due(String what, long got, long want) {
    asked++;
    if (got != want) {
      wrong++;
      System.out.println("promise " + promise + ": " + what + " answered " + got + ", due is " + want);
    }
  }

  private static void put(KinGates x, String text) {
    for (int i = 0; i < text.length(); i++) {
      x.feed(text.charAt(i));
    }
  }

  private static KinGates told(String text) {
    KinGates x = new KinGates();
    put(x, text);
    due("text() of " + text, x.text() >= 0 ? 1 : 0, 1);
    return x;
  }

  /** A text that must be refused, with its fault and place; what was told before stays. */
  private static void refused(String text, int fault, int place) {
    KinGates x = told("plain;plain 0;gate 7 1;");
    x.keep(1);
    x.see(3, true);
    put(x, text);
    due("text() of '" + text + "'", x.text(), -10 - place);
    due("fault() of '" + text + "'", x.fault(), fault);
    due("tape behind '" + text + "'", x.count(2), 0);
    due("people behind '" + text + "'", x.rule(0), 2);
    due("gates behind '" + text + "'", x.rule(3), 1);
    due("last behind '" + text + "'", x.gate(0, 1), 1);
    due("images behind '" + text + "'", x.count(1), 1);
    due("seen behind '" + text + "'", x.count(0), 1);
  }

  private static void taken(String text, int lines) {
    KinGates x = new KinGates();
    put(x, text);
    due("text() of '" + text + "'", x.text(), lines);
    due("fault() of '" + text + "'", x.fault(), 0);
  }

  private static void newObject() {
    promise = 1;
    KinGates x = new KinGates();
    for (int what = 0; what <= 5; what++) {
      due("rule(" + what + ")", x.rule(what), 0);
    }
    due("count(0)", x.count(0), 0);
    due("count(1)", x.count(1), 0);
    due("count(2)", x.count(2), 0);
    due("count(3)", x.count(3), NONE);
    due("count(4)", x.count(4), 0);
    due("fault()", x.fault(), 0);
    due("torn()", x.torn(), 0);
    for (int k = 0; k < 4; k++) {
      due("lay(" + k + ", 0, 0)", x.lay(k, 0, 0), -11);
    }
    due("one(0, 0)", x.one(0, 0), BAD);
    due("gate(0, 0)", x.gate(0, 0), BAD);
    due("back(0)", x.back(0), STATE);
    due("constants", KinGates.BAD * 1000 + KinGates.STATE * 100 + KinGates.FULL * 10 + KinGates.NONE, -1234);
  }

  private static void feeding() {
    promise = 2;
    KinGates x = new KinGates();
    due("feed(-1)", x.feed(-1), BAD);
    due("feed(128)", x.feed(128), BAD);
    due("feed(LOW)", x.feed(LOW), BAD);
    due("feed(0)", x.feed(0), 1);
    due("feed(127)", x.feed(127), 2);
    for (int i = 3; i <= 160; i++) {
      due("feed(32)", x.feed(32), i);
    }
    due("feed(32), the 161st", x.feed(32), FULL);
    due("feed(128) when full", x.feed(128), BAD);
    due("count(2)", x.count(2), 160);
  }

  private static void ending() {
    promise = 3;
    KinGates x = new KinGates();
    due("end(0)", x.end(0), 0);
    due("end(1)", x.end(1), BAD);
    put(x, "plain;gate");
    due("end(-1)", x.end(-1), BAD);
    due("end(11)", x.end(11), BAD);
    due("end(10)", x.end(10), 10);
    due("end(6)", x.end(6), 10);
    due("end(7)", x.end(7), BAD);
    due("count(2)", x.count(2), 6);
    due("feed(112)", x.feed('p'), 7);
    due("end(6)", x.end(6), 7);
    due("text()", x.text(), 1);
    due("rule(0)", x.rule(0), 1);
  }

  private static void texts() {
    promise = 4;
    taken("", 0);
    taken("   ", 0);
    taken(" ".repeat(160), 0);
    taken(" ".repeat(154) + "plain;", 1);
    taken("plan;" + "gate 9;".repeat(3), 4);
    taken(HOUSE, 10);
    taken("  plain  ;   plain0;marry0 1;marry 1 0;gate9 01;plan;", 6);
    taken("plan 50 52 00 1;plain;plain;plain;plain;plain;plain;gate 0;gate 0;gate 0;", 10);
    taken("marry 0 5;feud 5 0;gate 0 5;plain;plain;plain;plain;plain;plain 4;", 9);
    taken("plain;gate 0;plan 0 0 0 0 0 0 0 0;", 3);
    KinGates x = told(HOUSE);
    x.go(0, 0);
    x.keep(0);
    x.keep(1);
    x.see(0, true);
    x.sheet(0, 1, 5);
    put(x, "adopted;gate 3;");
    due("text()", x.text(), 2);
    due("people", x.rule(0), 1);
    due("kind", x.one(0, 0), 1);
    due("parent", x.one(0, 1), NONE);
    due("marriages", x.rule(1), 0);
    due("feuds", x.rule(2), 0);
    due("gates", x.rule(3), 1);
    due("last", x.gate(0, 1), NONE);
    due("went", x.gate(0, 2), 0);
    due("acts", x.rule(4), 0);
    due("seen", x.count(0), 0);
    due("images", x.count(1), 0);
    due("cells stay", x.count(3), 5);
    put(x, "plain;gate 0;plan 0;");
    due("a plan", x.text(), 3);
    due("it goes", x.go(0, 0), 1);
    due("guesses are by itself", x.parents(0), 64);
    put(x, "plain;gate 0;plan 0 0;");
    due("a plan again in another text", x.text(), 3);
    due("went is 0 at first", x.gate(0, 2), 0);
    due("acts", x.rule(4), 2);
    due("text() of nothing", x.text(), 0);
    due("people", x.rule(0), 0);
    due("gates", x.rule(3), 0);
  }

  private static void faults() {
    promise = 5;
    refused("plain;A", 1, 6);
    refused("plain; \t;", 1, 7);
    refused("plain 123;", 1, 6);
    refused("plain;plain 000;", 1, 12);
    refused("plain\u0000;", 1, 5);
    refused("twin;", 2, 0);
    refused("z;", 2, 0);
    refused("a;", 2, 0);
    refused("`", 1, 0);
    refused("{", 1, 0);
    refused("/", 1, 0);
    refused(":", 1, 0);
    refused("plainz;", 2, 0);
    refused("xlain;", 2, 0);
    refused("plaix;", 2, 0);
    refused("plan".repeat(40), 2, 0);
    refused(" ".repeat(154) + "gate 1", 2, 160);
    refused(" ".repeat(156) + "gate", 2, 160);
    refused("plains;", 2, 0);
    refused("pla in;", 2, 0);
    refused("estranged;", 2, 0);
    refused(";", 2, 0);
    refused("plain;;", 2, 6);
    refused("5", 2, 0);
    refused("plain", 2, 5);
    refused("plain  ", 2, 7);
    refused("plain plain;", 2, 6);
    refused("plain;plain 0 0;", 2, 14);
    refused("marry;", 2, 5);
    refused("marry 0;", 2, 7);
    refused("marry 0 1", 2, 9);
    refused("marry 0 1 2;", 2, 10);
    refused("feud plain;", 2, 5);
    refused("gate;", 2, 4);
    refused("gate 1 1 1;", 2, 9);
    refused("plan 0 x;", 2, 7);
    refused("plan 0", 2, 6);
    refused("plain 0;", 3, 6);
    refused("plain;plain;adopted 2;", 3, 20);
    refused("marry 6 0;", 3, 6);
    refused("marry 0 6;", 3, 8);
    refused("marry 2 2;", 3, 8);
    refused("feud 10 0;", 3, 5);
    refused("feud 3 03;", 3, 7);
    refused("gate 10;", 3, 5);
    refused("gate 9 6;", 3, 7);
    refused("plan 3;", 3, 5);
    refused("plan 60;", 3, 5);
    refused("plan 0 53;", 3, 7);
    refused("plan;plan;", 4, 5);
    refused("plan; plan A", 4, 6);
    refused("plain;plain;plain;plain;plain;plain;adopted", 5, 36);
    refused("marry 0 1;marry 0 1;marry 0 1;marry", 5, 30);
    refused("feud 0 1;feud 0 1;feud 0 1; feud 9", 5, 28);
    refused("gate 0;gate 0;gate 0;gate 99;", 5, 21);
    refused("plan 0 0 0 0 0 0 0 0 0;", 5, 21);
    refused("plan 0 0 0 0 0 0 0 0 99;", 5, 21);
    refused("plan 0 0 0 0 0 0 0 0 999;", 1, 21);
    refused("plan 0 0 0 0 0 0 0 0 x;", 2, 21);
    refused("marry 0 1;plain; ", 6, 17);
    refused("plain;feud 0 1;", 6, 15);
    refused("plain;feud 1 0;", 6, 15);
    refused("plain;marry 1 0;", 6, 16);
    refused("plain;gate 0 1;", 6, 15);
    refused("plain;gate 0;plan 1;", 6, 20);
    refused("plain;gate 0;plan 10;", 6, 21);
    refused("marry 0 1;plain;A", 1, 16);
    KinGates x = new KinGates();
    put(x, "twin;");
    x.text();
    due("fault()", x.fault(), 2);
    due("fault() again", x.fault(), 2);
    x.text();
    due("fault() of an empty text", x.fault(), 0);
  }

  private static void rules() {
    promise = 6;
    KinGates x = told(HOUSE);
    int[] want = {5, 1, 1, 2, 6, 0};
    for (int what = 0; what <= 5; what++) {
      due("rule(" + what + ")", x.rule(what), want[what]);
    }
    x.go(0, 0);
    x.go(1, 0);
    x.go(4, 1);
    due("rule(5)", x.rule(5), 3);
    due("rule(-1)", x.rule(-1), BAD);
    due("rule(6)", x.rule(6), BAD);
  }

  private static void ones() {
    promise = 7;
    KinGates x = told(HOUSE);
    int[] kinds = {0, 0, 1, 2, 3}, parents = {NONE, 0, 0, 1, 2}, ties = {1, 1, 2, 0, 4}, children = {6, 8, 16, 0, 0};
    for (int p = 0; p < 5; p++) {
      due("one(" + p + ", 0)", x.one(p, 0), kinds[p]);
      due("one(" + p + ", 1)", x.one(p, 1), parents[p]);
      due("one(" + p + ", 2)", x.one(p, 2), ties[p]);
      due("one(" + p + ", 3)", x.one(p, 3), children[p]);
      due("one(" + p + ", 4)", x.one(p, 4), 31);
    }
    KinGates y = told("estrange;plain 0;plain;bastard;marry 2 3;plain;");
    due("tie without a parent", y.one(0, 2), 4);
    due("tie without a parent", y.one(3, 2), 0);
    due("linked", y.one(0, 4), 3);
    due("linked", y.one(1, 4), 3);
    due("linked by marriage", y.one(3, 4), 12);
    due("linked with itself alone", y.one(4, 4), 16);
    due("one(-1, 0)", x.one(-1, 0), BAD);
    due("one(5, 0)", x.one(5, 0), BAD);
    due("one(0, -1)", x.one(0, -1), BAD);
    due("one(0, 5)", x.one(0, 5), BAD);
    due("one(HIGH, 4)", x.one(HIGH, 4), BAD);
  }

  private static void gates() {
    promise = 8;
    KinGates x = told(HOUSE);
    due("gate(0, 0)", x.gate(0, 0), 2);
    due("gate(0, 1)", x.gate(0, 1), NONE);
    due("gate(0, 2)", x.gate(0, 2), 0);
    due("gate(0, 3)", x.gate(0, 3), 31);
    due("gate(1, 0)", x.gate(1, 0), 1);
    due("gate(1, 1)", x.gate(1, 1), 3);
    due("gate(1, 3), 0 is at feud", x.gate(1, 3), 26);
    x.set(1, 0, 0);
    due("gate(1, 3) by reach 0", x.gate(1, 3), 10);
    x.set(1, 0, 3);
    due("gate(1, 3) by reach 3", x.gate(1, 3), 30);
    due("go", x.go(4, 0), 1);
    due("gate(0, 1)", x.gate(0, 1), 4);
    due("gate(0, 2)", x.gate(0, 2), 1);
    due("gate(0, 3)", x.gate(0, 3), 27);
    due("gate(2, 0)", x.gate(2, 0), BAD);
    due("gate(-1, 0)", x.gate(-1, 0), BAD);
    due("gate(0, 4)", x.gate(0, 4), BAD);
    due("gate(0, -1)", x.gate(0, -1), BAD);
    due("gate of a place without people", told("gate 4;").gate(0, 3), 0);
    due("not linked at all, reach 9", told("plain;plain;gate 9 0;").gate(0, 3), 1);
  }

  private static void pairsAndActs() {
    promise = 9;
    KinGates x = told("plain;plain;plain;marry 2 0;marry 1 2;feud 2 1;gate 0;gate 0;plan 21 0 10;");
    due("pair(0, 0)", x.pair(0, 0), 20);
    due("pair(0, 1)", x.pair(0, 1), 12);
    due("pair(0, 2)", x.pair(0, 2), BAD);
    due("pair(0, -1)", x.pair(0, -1), BAD);
    due("pair(1, 0)", x.pair(1, 0), 21);
    due("pair(1, 1)", x.pair(1, 1), BAD);
    due("pair(2, 0)", x.pair(2, 0), BAD);
    due("pair(-1, 0)", x.pair(-1, 0), BAD);
    promise = 10;
    due("act(0)", x.act(0), 21);
    due("act(1)", x.act(1), 0);
    due("act(2)", x.act(2), 10);
    due("act(3)", x.act(3), BAD);
    due("act(-1)", x.act(-1), BAD);
  }

  private static void degrees() {
    promise = 11;
    KinGates x = told(HOUSE);
    int[][] want = {{0, 1, 2, 1, 2}, {1, 0, 3, 0, 1}, {2, 3, 0, 3, 4}, {1, 0, 3, 0, 1}, {2, 1, 4, 1, 0}};
    for (int p = 0; p < 5; p++) {
      for (int q = 0; q < 5; q++) {
        due("degree(" + p + ", " + q + ")", x.degree(p, q), want[p][q]);
      }
    }
    due("degree(0, 5)", x.degree(0, 5), BAD);
    due("degree(5, 0)", x.degree(5, 0), BAD);
    due("degree(-1, 0)", x.degree(-1, 0), BAD);
    KinGates y = told("plain;estrange 0;estrange 1;estrange 2;estrange 3;estrange 4;");
    due("the furthest", y.degree(0, 5), 20);
    due("the furthest", y.degree(5, 0), 20);
    KinGates z = told("plain;plain;estrange 0;marry 0 2;");
    due("marriage is the shorter", z.degree(0, 2), 1);
    due("not linked", z.degree(0, 1), NONE);
    due("itself", z.degree(1, 1), 0);
    KinGates b = told("plain;bastard 0;marry 0 1;");
    due("blood is the shorter", b.degree(0, 1), 0);
  }

  private static void forebears() {
    promise = 12;
    KinGates x = told("plain;plain 0;plain 1;plain 1;plain 0;plain;marry 4 5;");
    due("forebear(2, 3)", x.forebear(2, 3), 1);
    due("forebear(3, 4)", x.forebear(3, 4), 0);
    due("forebear(1, 3)", x.forebear(1, 3), 1);
    due("forebear(3, 1)", x.forebear(3, 1), 1);
    due("forebear(4, 4)", x.forebear(4, 4), 4);
    due("forebear(4, 5), married alone", x.forebear(4, 5), NONE);
    due("forebear(6, 0)", x.forebear(6, 0), BAD);
    due("forebear(0, -1)", x.forebear(0, -1), BAD);
  }

  private static void altering() {
    promise = 13;
    KinGates x = told(HOUSE);
    due("alter(3, 0, 1)", x.alter(3, 0, 1), 2);
    due("alter(3, 0, 3)", x.alter(3, 0, 3), 1);
    due("tie", x.one(3, 2), 4);
    due("alter(3, 0, 0)", x.alter(3, 0, 0), 3);
    due("tie", x.one(3, 2), 1);
    due("alter(3, 0, 3)", x.alter(3, 0, 3), 0);
    due("alter(3, 0, 4)", x.alter(3, 0, 4), BAD);
    due("alter(3, 0, -1)", x.alter(3, 0, -1), BAD);
    due("alter(3, 0, NONE)", x.alter(3, 0, NONE), BAD);
    due("alter(3, 1, 3)", x.alter(3, 1, 3), BAD);
    due("alter(3, 1, 4)", x.alter(3, 1, 4), BAD);
    due("alter(3, 1, -1)", x.alter(3, 1, -1), BAD);
    due("alter(3, 1, 2)", x.alter(3, 1, 2), 1);
    due("alter(3, 1, NONE)", x.alter(3, 1, NONE), 2);
    due("alter(3, 1, 0)", x.alter(3, 1, 0), NONE);
    due("parent", x.one(3, 1), 0);
    due("kind stays", x.one(3, 0), 3);
    due("alter(0, 1, 0)", x.alter(0, 1, 0), BAD);
    due("alter(0, 1, NONE)", x.alter(0, 1, NONE), NONE);
    due("alter(0, 2, 0)", x.alter(0, 2, 0), BAD);
    due("alter(0, -1, 0)", x.alter(0, -1, 0), BAD);
    due("alter(5, 0, 0)", x.alter(5, 0, 0), BAD);
    due("alter(-1, 0, 0)", x.alter(-1, 0, 0), BAD);
  }

  private static void pairing() {
    KinGates x = told("plain;plain;plain;gate 1;");
    promise = 14;
    due("marry(0, 0)", x.marry(0, 0), BAD);
    due("marry(0, 3)", x.marry(0, 3), BAD);
    due("marry(-1, 0)", x.marry(-1, 0), BAD);
    due("marry(2, 1)", x.marry(2, 1), 1);
    due("pair(0, 0)", x.pair(0, 0), 21);
    due("degree(1, 2)", x.degree(1, 2), 1);
    due("marry(1, 2)", x.marry(1, 2), 2);
    due("marry(0, 1)", x.marry(0, 1), 3);
    due("marry(0, 2)", x.marry(0, 2), FULL);
    due("marry(2, 2) when full", x.marry(2, 2), BAD);
    due("marriages", x.rule(1), 3);
    promise = 15;
    due("feud(1, 1)", x.feud(1, 1), BAD);
    due("feud(3, 0)", x.feud(3, 0), BAD);
    due("feud(0, -1)", x.feud(0, -1), BAD);
    due("feud(0, 1)", x.feud(0, 1), 1);
    due("go(1, 0)", x.go(1, 0), 1);
    due("go(0, 0) at feud", x.go(0, 0), 0);
    due("feud(2, 0)", x.feud(2, 0), 2);
    due("feud(1, 2)", x.feud(1, 2), 3);
    due("go(2, 0) at feud", x.go(2, 0), 0);
    due("feud(0, 2)", x.feud(0, 2), FULL);
    due("feud(3, 2) when full", x.feud(3, 2), BAD);
    due("feuds", x.rule(2), 3);
    promise = 16;
    due("undo(2, 0)", x.undo(2, 0), BAD);
    due("undo(-1, 0)", x.undo(-1, 0), BAD);
    due("undo(0, 3)", x.undo(0, 3), BAD);
    due("undo(1, -1)", x.undo(1, -1), BAD);
    due("undo(0, 1)", x.undo(0, 1), 2);
    due("pair(0, 0)", x.pair(0, 0), 21);
    due("pair(0, 1)", x.pair(0, 1), 1);
    due("pair(0, 2)", x.pair(0, 2), BAD);
    due("undo(1, 0)", x.undo(1, 0), 2);
    due("pair(1, 0)", x.pair(1, 0), 20);
    due("pair(1, 1)", x.pair(1, 1), 12);
    due("undo(1, 1)", x.undo(1, 1), 1);
    due("undo(1, 0)", x.undo(1, 0), 0);
    due("undo(1, 0)", x.undo(1, 0), BAD);
    due("go(0, 0) without feud", x.go(0, 0), 1);
    due("marry(0, 2)", x.marry(0, 2), 3);
  }

  private static void setting() {
    promise = 17;
    KinGates x = told(HOUSE);
    due("set(0, 0, 9)", x.set(0, 0, 9), 2);
    due("set(0, 0, 0)", x.set(0, 0, 0), 9);
    due("set(0, 0, 10)", x.set(0, 0, 10), BAD);
    due("set(0, 0, -1)", x.set(0, 0, -1), BAD);
    due("set(0, 0, NONE)", x.set(0, 0, NONE), BAD);
    due("set(0, 1, 4)", x.set(0, 1, 4), NONE);
    due("set(0, 1, 5)", x.set(0, 1, 5), BAD);
    due("set(0, 1, -1)", x.set(0, 1, -1), BAD);
    due("set(0, 1, NONE)", x.set(0, 1, NONE), 4);
    due("set(1, 1, 0)", x.set(1, 1, 0), 3);
    due("gate(1, 1)", x.gate(1, 1), 0);
    due("gate(1, 2), nobody went", x.gate(1, 2), 0);
    due("set(2, 0, 1)", x.set(2, 0, 1), BAD);
    due("set(-1, 0, 1)", x.set(-1, 0, 1), BAD);
    due("set(0, 2, 1)", x.set(0, 2, 1), BAD);
    due("set(0, -1, 1)", x.set(0, -1, 1), BAD);
  }

  private static void planning() {
    promise = 18;
    KinGates x = told("plain;plain;gate 0;gate 0;");
    due("plan(20)", x.plan(20), BAD);
    due("plan(2)", x.plan(2), BAD);
    due("plan(-10)", x.plan(-10), BAD);
    due("plan(-1)", x.plan(-1), BAD);
    due("plan(LOW)", x.plan(LOW), BAD);
    due("plan(HIGH)", x.plan(HIGH), BAD);
    due("plan(11)", x.plan(11), 1);
    due("plan(0)", x.plan(0), 2);
    for (int i = 3; i <= 8; i++) {
      due("plan(10)", x.plan(10), i);
    }
    due("plan(10), the 9th", x.plan(10), FULL);
    due("plan(20) when full", x.plan(20), BAD);
    due("act(0)", x.act(0), 11);
    due("act(7)", x.act(7), 10);
    promise = 19;
    due("cut(9)", x.cut(9), BAD);
    due("cut(-1)", x.cut(-1), BAD);
    due("cut(8)", x.cut(8), 8);
    due("cut(1)", x.cut(1), 8);
    due("cut(2)", x.cut(2), BAD);
    due("act(0)", x.act(0), 11);
    due("act(1)", x.act(1), BAD);
    due("plan(1)", x.plan(1), 2);
    due("act(1)", x.act(1), 1);
    due("cut(0)", x.cut(0), 2);
    due("rule(4)", x.rule(4), 0);
  }

  private static void going() {
    promise = 20;
    KinGates x = told(HOUSE);
    due("go(0, 0)", x.go(0, 0), 1);
    due("go(3, 0), at feud", x.go(3, 0), 0);
    due("last stays", x.gate(0, 1), 0);
    due("went stays", x.gate(0, 2), 1);
    due("go(0, 0), itself again", x.go(0, 0), 1);
    due("go(4, 0)", x.go(4, 0), 1);
    due("go(2, 0), too far", x.go(2, 0), 0);
    due("go(5, 0)", x.go(5, 0), BAD);
    due("go(-1, 0)", x.go(-1, 0), BAD);
    due("go(0, 2)", x.go(0, 2), BAD);
    due("go(0, -1)", x.go(0, -1), BAD);
    due("gate(0, 1)", x.gate(0, 1), 4);
    due("gate(0, 2)", x.gate(0, 2), 3);
    due("gate(1, 1)", x.gate(1, 1), 3);
    KinGates y = told("plain;gate 0;gate 0;");
    y.sheet(0, 0, 40);
    for (int i = 0; i < 49; i++) {
      y.read(0, 0, 0, 20);
    }
    for (int i = 980; i < 998; i++) {
      y.go(0, 0);
    }
    due("went", y.gate(0, 2), 998);
    due("go(0, 0)", y.go(0, 0), 1);
    due("went", y.gate(0, 2), 999);
    due("go(0, 0)", y.go(0, 0), 1);
    due("went at most", y.gate(0, 2), 999);
    due("the other gate", y.go(0, 1), 1);
    due("rule(5)", y.rule(5), 1000);
  }

  private static void running() {
    promise = 21;
    KinGates x = told(HOUSE);
    due("runs(0)", x.runs(0), 47);
    due("runs(1)", x.runs(1), 5);
    due("runs(2)", x.runs(2), 27);
    due("runs(3)", x.runs(3), 4);
    due("runs(4)", x.runs(4), BAD);
    due("runs(-1)", x.runs(-1), BAD);
    due("nothing is changed", x.rule(5), 0);
    due("nothing is changed", x.gate(0, 1), NONE);
    x.set(0, 1, 3);
    due("from now on, 0 is at feud", x.runs(0), 46);
    due("from now on", x.runs(1), 4);
    due("from now on", x.runs(2), 26);
    due("from now on", x.runs(3), 0);
    x.set(0, 1, NONE);
    x.cut(4);
    due("all go", x.runs(3), NONE);
    x.cut(0);
    due("no plan", x.runs(0), 0);
    due("no plan", x.runs(3), NONE);
    promise = 22;
    KinGates y = told(HOUSE);
    due("ahead(0)", y.ahead(0), 3);
    due("ahead(1)", y.ahead(1), 4);
    due("ahead(2)", y.ahead(2), BAD);
    due("ahead(-1)", y.ahead(-1), BAD);
    due("nothing is changed", y.gate(1, 1), 3);
    y.cut(1);
    due("ahead(0)", y.ahead(0), 0);
    y.cut(0);
    due("ahead(0)", y.ahead(0), NONE);
    due("ahead(1)", y.ahead(1), 3);
  }

  private static void lining() {
    promise = 23;
    KinGates x = told(HOUSE);
    int[] first = {1, 3, 4, 0, 2, NONE};
    int[] second = {3, 4, 1, 0, NONE, NONE};
    for (int i = 0; i < 6; i++) {
      due("line(0, " + (10 + i) + ")", x.line(0, 10 + i), first[i]);
      due("line(1, " + (10 + i) + ")", x.line(1, 10 + i), second[i]);
    }
    due("line(0, 0)", x.line(0, 0), 5);
    due("line(0, 1)", x.line(0, 1), 8);
    due("line(1, 0)", x.line(1, 0), 4);
    due("line(1, 1)", x.line(1, 1), 2);
    due("line(0, 2)", x.line(0, 2), BAD);
    due("line(0, 9)", x.line(0, 9), BAD);
    due("line(0, -1)", x.line(0, -1), BAD);
    due("line(2, 0)", x.line(2, 0), BAD);
    due("line(-1, 10)", x.line(-1, 10), BAD);
    due("line(0, 1000)", x.line(0, 1000), NONE);
    due("line(0, HIGH)", x.line(0, HIGH), NONE);
    KinGates y = told("plain;bastard 0;bastard 0;bastard 0;bastard 0;bastard 0;gate 0;gate 0 5;");
    due("all ways", y.line(0, 1), 720);
    due("the last of the first", y.line(0, 15), 5);
    due("all ways behind 5", y.line(1, 1), 720);
    KinGates z = told("plain;plain;gate 0;gate 9 1;");
    due("either alone", z.line(0, 0), 1);
    due("either alone", z.line(0, 1), 2);
    due("the first", z.line(0, 10), 0);
    due("the last again", z.line(1, 10), 1);
    due("one way", z.line(1, 1), 1);
    KinGates e = told("gate 3;");
    due("nobody", e.line(0, 0), 0);
    due("nobody, the empty line alone", e.line(0, 1), 1);
    due("nobody", e.line(0, 10), NONE);
  }

  private static void sending() {
    promise = 24;
    KinGates x = told("plain;plain 0;plain 1;plain 2;plain 3;plain;gate 1 0;gate 3;gate 2 0;feud 3 2;");
    due("send(0, 0, 0)", x.send(0, 0, 0), 0);
    due("send(0, 0, 10)", x.send(0, 0, 10), NONE);
    due("send(2, 0, 0)", x.send(2, 0, 0), 1);
    due("send(2, 0, 10)", x.send(2, 0, 10), 1);
    due("send(2, 0, 11)", x.send(2, 0, 11), NONE);
    due("send(3, 0, 0), 2 is at feud", x.send(3, 0, 0), NONE);
    due("send(3, 0, 10)", x.send(3, 0, 10), NONE);
    due("send(4, 1, 0), nobody was last", x.send(4, 1, 0), 0);
    due("send(4, 2, 0)", x.send(4, 2, 0), 1);
    due("send(4, 2, 10)", x.send(4, 2, 10), 2);
    due("send(3, 2, 0)", x.send(3, 2, 0), 1);
    due("send(3, 2, 10)", x.send(3, 2, 10), 1);
    due("send(5, 2, 0)", x.send(5, 2, 0), NONE);
    x.undo(1, 0);
    due("send(4, 0, 0)", x.send(4, 0, 0), 3);
    due("send(4, 0, 10)", x.send(4, 0, 10), 1);
    due("send(4, 0, 11)", x.send(4, 0, 11), 2);
    due("send(4, 0, 12)", x.send(4, 0, 12), 3);
    due("send(4, 0, 13)", x.send(4, 0, 13), NONE);
    due("send(4, 0, 1)", x.send(4, 0, 1), BAD);
    due("send(4, 0, 9)", x.send(4, 0, 9), BAD);
    due("send(4, 0, -1)", x.send(4, 0, -1), BAD);
    due("send(6, 0, 0)", x.send(6, 0, 0), BAD);
    due("send(-1, 0, 0)", x.send(-1, 0, 0), BAD);
    due("send(0, 3, 0)", x.send(0, 3, 0), BAD);
    due("nothing is changed", x.rule(5), 0);
    KinGates z = told("plain;plain 0;plain 0;plain 2;gate 1 1;");
    due("by way of 0", z.send(3, 0, 0), 2);
    due("by way of 0", z.send(3, 0, 10), 0);
    due("by way of 0", z.send(3, 0, 11), 2);
    KinGates y = told("plain;plain 0;plain 0;plain 1;marry 2 3;gate 1 0;");
    due("the first of several", y.send(3, 0, 10), 1);
    due("send(3, 0, 0)", y.send(3, 0, 0), 1);
  }

  private static void matching() {
    promise = 25;
    KinGates x = told(HOUSE);
    due("match(0, 0)", x.match(0, 0), NONE);
    due("match(0, 1)", x.match(0, 1), NONE);
    due("match(1, 0)", x.match(1, 0), 2);
    due("match(1, 1)", x.match(1, 1), 5);
    due("nothing is changed", x.rule(1), 1);
    due("nothing is changed", x.degree(0, 2), 2);
    due("match(2, 0)", x.match(2, 0), BAD);
    due("match(-1, 0)", x.match(-1, 0), BAD);
    due("match(0, 2)", x.match(0, 2), BAD);
    due("match(0, -1)", x.match(0, -1), BAD);
    x.marry(0, 1);
    x.marry(0, 1);
    due("match(1, 0)", x.match(1, 0), FULL);
    due("match(1, 2) when full", x.match(1, 2), BAD);
    KinGates y = told("plain;plain;plain 1;plain;gate 1;");
    due("a line of three", y.match(0, 0), 1);
    due("a line of three", y.match(0, 1), 3);
    KinGates z = told("plain;plain 0;plain 0;plain 1;plain;plain 4;gate 1;");
    due("all six", z.match(0, 0), 24);
    due("all six", z.match(0, 1), 6);
    due("one alone", told("plain;gate 0;").match(0, 0), NONE);
    due("nobody", told("gate 0;").match(0, 1), NONE);
  }

  private static void widening() {
    promise = 26;
    KinGates x = told("plain;plain 0;estrange 1;gate 0 0;gate 1 0;gate 4 0;");
    due("widen()", x.widen(), 5);
    x.set(0, 1, NONE);
    due("widen() with nobody", x.widen(), 4);
    x.feud(2, 0);
    due("widen() with a feud", x.widen(), 0);
    KinGates y = told("plain;estrange 0;estrange 1;adopted 2;gate 9 0;");
    due("reach 9, degree 10", y.widen(), 1);
    due("reach stays", y.gate(0, 0), 9);
    promise = 27;
    due("apart(0)", y.apart(0), 3);
    due("apart(1)", y.apart(1), 10);
    due("apart(2)", y.apart(2), BAD);
    due("apart(-1)", y.apart(-1), BAD);
    KinGates z = told(HOUSE);
    due("apart(0)", z.apart(0), 24);
    due("apart(1)", z.apart(1), 4);
    KinGates e = told("plain;plain;");
    due("none linked", e.apart(0), NONE);
    due("none linked", e.apart(1), NONE);
    due("BAD ahead of NONE", e.apart(5), BAD);
    KinGates b = told("plain;plain;bastard 1;bastard 0;");
    due("degree 0, the least", b.apart(0), 3);
    due("degree 0", b.apart(1), 0);
  }

  private static void odds() {
    promise = 28;
    KinGates x = told("plain;plain;gate 0;plan 0 10;");
    long[][] want = {{0, 1, 1}, {2, 24, 25}, {5, 3, 4}, {10, 0, 1}};
    for (long[] w : want) {
      due("mean(" + w[0] + ", 0)", x.mean((int) w[0], 0), w[1]);
      due("mean(" + w[0] + ", 1)", x.mean((int) w[0], 1), w[2]);
    }
    due("mean(-1, 0)", x.mean(-1, 0), BAD);
    due("mean(11, 0)", x.mean(11, 0), BAD);
    due("mean(5, 2)", x.mean(5, 2), BAD);
    due("mean(5, -1)", x.mean(5, -1), BAD);
    due("nothing is changed", x.gate(0, 1), NONE);
    KinGates s = told("plain;plain;plain;plain;plain;plain;gate 0;plan 50 50 50 50 50 50 50 50;");
    due("eight of one", s.mean(1, 0), 36);
    due("eight of one", s.mean(1, 1), 5);
    due("nobody", new KinGates().mean(3, 0), 0);
    due("nobody", new KinGates().mean(3, 1), 1);
    promise = 29;
    due("luck(2, 0, 0)", x.luck(2, 0, 0), 4);
    due("luck(2, 0, 1)", x.luck(2, 0, 1), 5);
    due("luck(2, 1, 0)", x.luck(2, 1, 0), 4);
    due("luck(2, 1, 1)", x.luck(2, 1, 1), 25);
    due("luck(0, 1, 0)", x.luck(0, 1, 0), 0);
    due("luck(0, 1, 1)", x.luck(0, 1, 1), 1);
    due("luck(0, 0, 0)", x.luck(0, 0, 0), 1);
    due("luck(10, 0, 0)", x.luck(10, 0, 0), 0);
    due("luck(5, 2, 0)", x.luck(5, 2, 0), BAD);
    due("luck(5, -1, 0)", x.luck(5, -1, 0), BAD);
    due("luck(11, 0, 0)", x.luck(11, 0, 0), BAD);
    due("luck(-1, 0, 0)", x.luck(-1, 0, 0), BAD);
    due("luck(5, 0, 2)", x.luck(5, 0, 2), BAD);
    KinGates t = told("plain;plain;gate 0;gate 0 1;plan 0 1 10;");
    due("through some gate", t.luck(5, 0, 0), 1);
    due("through some gate", t.luck(5, 0, 1), 2);
  }

  private static void seeing() {
    promise = 30;
    KinGates x = told("plain;plain;gate 0;plan 0 10;");
    due("see(-1, true)", x.see(-1, true), BAD);
    due("see(8, true)", x.see(8, true), BAD);
    due("see(7, false)", x.see(7, false), 1);
    due("behind the plan: not", x.reaches(0), 1023);
    due("see(2, true)", x.see(2, true), 2);
    due("behind the plan: not", x.reaches(0), 0);
    for (int i = 3; i <= 6; i++) {
      due("see(0, true)", x.see(0, true), i);
    }
    due("see(0, true)", x.see(0, true), FULL);
    due("see(8, true) when full", x.see(8, true), BAD);
    due("count(0)", x.count(0), 6);
    promise = 31;
    due("forget(7)", x.forget(7), BAD);
    due("forget(-1)", x.forget(-1), BAD);
    due("forget(6)", x.forget(6), 6);
    due("forget(1)", x.forget(1), 6);
    due("the first stays", x.reaches(0), 1023);
    due("forget(2)", x.forget(2), BAD);
    due("forget(0)", x.forget(0), 1);
    due("count(0)", x.count(0), 0);
  }

  /** Gate 0 is passed by 0, then by 3: 3 comes through if it is near enough to 0. */
  private static void guessing() {
    promise = 32;
    KinGates x = told("plain;plain 0;plain 1;plain 0;gate 2;gate 1 2;plan 0 30 31;");
    due("nothing seen", x.parents(3), 71);
    due("parents(0)", x.parents(0), 64);
    due("parents(4)", x.parents(4), BAD);
    due("parents(-1)", x.parents(-1), BAD);
    x.see(1, true);
    due("child of 0 or 1", x.parents(3), 3);
    x.see(2, false);
    due("not of 2, seen at gate 1", x.parents(3), 3);
    x.forget(0);
    x.see(1, false);
    due("child of 2 or of nobody", x.parents(3), 68);
    x.see(2, true);
    due("child of 2", x.parents(3), 4);
    x.see(2, false);
    due("none by what is seen", x.parents(3), 0);
    due("the parent stays", x.one(3, 1), 0);
    promise = 33;
    x.forget(0);
    due("reaches(0)", x.reaches(0), 1023);
    x.see(1, true);
    due("reach 1 or more", x.reaches(0), 1022);
    due("any reach of gate 1", x.reaches(1), 1023);
    x.see(2, false);
    due("reach of gate 1 below 3", x.reaches(1), 7);
    due("reaches(2)", x.reaches(2), BAD);
    due("reaches(-1)", x.reaches(-1), BAD);
    due("the reach stays", x.gate(0, 0), 2);
    x.see(0, false);
    due("none by what is seen", x.reaches(1), 0);
    promise = 34;
    x.forget(0);
    due("look(3, 0): act 1 parts 2 from 2", x.look(3, 0), 1);
    due("look(3, 1)", x.look(3, 1), 2);
    x.see(1, true);
    due("look(3, 0): none parts 0 from 1", x.look(3, 0), NONE);
    due("look(3, 1)", x.look(3, 1), NONE);
    x.forget(0);
    x.see(1, false);
    due("act 2 parts 2 from nobody", x.look(3, 0), 2);
    due("act 2 parts 2 from nobody", x.look(3, 1), 1);
    due("one parent alone", x.look(0, 0), NONE);
    due("look(4, 0)", x.look(4, 0), BAD);
    due("look(-1, 0)", x.look(-1, 0), BAD);
    due("look(3, 2)", x.look(3, 2), BAD);
    due("look(3, -1)", x.look(3, -1), BAD);
    x.forget(0);
    x.set(0, 1, 2);
    x.set(0, 0, 0);
    x.cut(0);
    due("no plan", x.look(3, 0), NONE);
    x.plan(30);
    x.plan(30);
    due("from now on: the first of two alike", x.look(3, 0), NONE);
    x.alter(3, 0, 2);
    due("a bastard of 2 alone goes behind 2", x.look(3, 0), 0);
    due("three are left at the worst", x.look(3, 1), 3);
    x.see(1, true);
    due("as all is now", x.parents(3), 4);
  }

  private static void drifting() {
    promise = 35;
    KinGates x = told("plain;plain;gate 0;gate 0;gate 0;");
    // seed 1 draws 16838 5758, 10113 17515, 31051 5627: 0 to gate 1, 1 to gate 1, 1 to gate 2
    due("drift(1, 1, 0)", x.drift(1, 1, 0), 1);
    due("drift(1, 2, 0)", x.drift(1, 2, 0), 1);
    due("drift(1, 3, 0)", x.drift(1, 3, 0), 2);
    due("drift(1, 3, 1)", x.drift(1, 3, 1), NONE);
    // seed -1 draws 15929 4409, 9862 26718, 8713 28226: 1 to gate 2, 0 to gate 0, 1 to gate 2
    due("drift(-1, 1, 1)", x.drift(-1, 1, 1), NONE);
    due("drift(-1, 2, 1)", x.drift(-1, 2, 1), 0);
    due("drift(-1, 3, 0)", x.drift(-1, 3, 0), 3);
    due("by itself", x.gate(0, 1), NONE);
    due("by itself", x.rule(5), 0);
    x.set(0, 1, 1);
    due("from now on: 1 is last at gate 0", x.drift(-1, 3, 0), 2);
    due("from now on: 1 stays last", x.drift(-1, 3, 1), 1);
    due("drift(0, 0, 0)", x.drift(0, 0, 0), BAD);
    due("drift(0, -1, 0)", x.drift(0, -1, 0), BAD);
    due("drift(0, 61, 0)", x.drift(0, 61, 0), BAD);
    due("drift(0, 1, 2)", x.drift(0, 1, 2), BAD);
    due("drift(0, 1, -1)", x.drift(0, 1, -1), BAD);
    due("one alone always goes", told("plain;gate 0;").drift(-77, 60, 0), 60);
    due("no gate", told("plain;").drift(1, 1, 0), STATE);
    due("nobody", told("gate 1;").drift(1, 1, 0), STATE);
    due("BAD ahead of STATE", new KinGates().drift(1, 0, 0), BAD);
  }

  private static void imaging() {
    promise = 36;
    KinGates x = told(HOUSE);
    due("keep(-1)", x.keep(-1), BAD);
    due("keep(2)", x.keep(2), BAD);
    due("keep(1)", x.keep(1), 0);
    due("count(1)", x.count(1), 1);
    x.go(0, 0);
    x.go(4, 1);
    x.see(1, true);
    due("keep(0)", x.keep(0), 0);
    due("keep(0)", x.keep(0), 1);
    promise = 37;
    x.alter(1, 0, 3);
    x.alter(4, 1, NONE);
    x.marry(0, 1);
    x.undo(1, 0);
    x.set(0, 0, 9);
    x.set(1, 1, NONE);
    x.cut(2);
    x.plan(41);
    due("back(-1)", x.back(-1), BAD);
    due("back(2)", x.back(2), BAD);
    due("back(0)", x.back(0), 2);
    due("kind", x.one(1, 0), 0);
    due("parent", x.one(4, 1), 2);
    due("marriages", x.rule(1), 1);
    due("feuds", x.rule(2), 1);
    due("feud", x.pair(1, 0), 3);
    due("reach", x.gate(0, 0), 2);
    due("last", x.gate(0, 1), 0);
    due("last", x.gate(1, 1), 4);
    due("went", x.gate(1, 2), 1);
    due("acts", x.rule(4), 6);
    due("act", x.act(2), 30);
    due("seen stays", x.count(0), 1);
    due("back(1)", x.back(1), 0);
    due("last", x.gate(0, 1), NONE);
    due("last", x.gate(1, 1), 3);
    due("went", x.gate(1, 2), 0);
    x.go(1, 0);
    due("back(1) again", x.back(1), 0);
    due("last", x.gate(0, 1), NONE);
    due("images stay", x.count(1), 2);
    due("back(0) without an image", told("plain;").back(0), STATE);
    KinGates y = new KinGates();
    y.keep(0);
    put(y, "twin;");
    y.text();
    due("a refused text leaves images", y.back(0), 0);
    put(y, "plain;");
    y.text();
    due("a text takes images away", y.back(0), STATE);
  }

  private static void sheeting() {
    promise = 38;
    KinGates x = told("plain;plain 0;plain;gate 1;gate 0;");
    due("sheet(0, 0, 0)", x.sheet(0, 0, 0), 1);
    due("count(3)", x.count(3), 0);
    due("sheet(0, 2, 40)", x.sheet(0, 2, 40), 1);
    due("count(3)", x.count(3), 40);
    due("sheet(0, 2, 41)", x.sheet(0, 2, 41), BAD);
    due("sheet(0, 2, -1)", x.sheet(0, 2, -1), -14);
    due("sheet(0, 2, LOW)", x.sheet(0, 2, LOW), -14);
    due("sheet(0, 3, -1)", x.sheet(0, 3, -1), BAD);
    due("sheet(0, -1, 1)", x.sheet(0, -1, 1), BAD);
    due("sheet(4, 0, 1)", x.sheet(4, 0, 1), BAD);
    due("sheet(-1, 0, -1)", x.sheet(-1, 0, -1), BAD);
    due("it stays", x.count(3), 40);
    promise = 39;
    due("lay(0, 39, 7)", x.lay(0, 39, 7), 1);
    due("lay(0, 40, 7)", x.lay(0, 40, 7), -12);
    due("lay(0, -1, 7)", x.lay(0, -1, 7), -12);
    due("lay(1, -1, 7)", x.lay(1, -1, 7), -11);
    due("lay(4, 0, 7)", x.lay(4, 0, 7), BAD);
    due("lay(-1, 0, 7)", x.lay(-1, 0, 7), BAD);
    x.sheet(0, 2, 2);
    due("lay(0, 2, 0), a shorter row", x.lay(0, 2, 0), -12);
    laneBits(x);
    due("new cells are 0", x.read(3, 1, 0, 1), 1);
    due("new cells are 0", x.gate(0, 1), 0);
  }

  /** 256 + 1 is 1 in a byte alone, 65536 + 1 in a byte and in a short. */
  private static void laneBits(KinGates x) {
    int[] values = {257, 65537};
    int[][] want = {{1, -20, -20}, {1, 1, -20}};
    for (int k = 0; k < 2; k++) {
      for (int lane = 0; lane <= 2; lane++) {
        x.sheet(3, lane, 2);
        x.lay(3, 0, values[k]);
        due(values[k] + " in lane " + lane, x.read(3, lane, 0, 1), want[k][lane]);
      }
    }
    x.sheet(3, 0, 2);
    x.lay(3, 0, 255);
    due("255 in a byte is below 0", x.read(3, 0, 0, 1), -20);
    x.sheet(3, 1, 2);
    x.set(0, 1, NONE);
  }

  private static void reading() {
    promise = 40;
    KinGates x = told("plain;plain 0;plain;gate 1;gate 0;");
    x.sheet(1, 1, 7);
    int[] cells = {0, 0, 1, 0, 2, 0, 1};
    for (int i = 0; i < cells.length; i++) {
      x.lay(1, i, cells[i]);
    }
    due("read(1, 1, 0, 3)", x.read(1, 1, 0, 3), 3);
    due("2 went to it and stays outside", x.gate(0, 1), 1);
    due("went", x.gate(0, 2), 2);
    due("torn()", x.torn(), 0);
    due("read(1, 1, 2, 20): a cell is left over", x.read(1, 1, 2, 20), 2);
    promise = 41;
    due("torn()", x.torn(), 2);
    promise = 40;
    due("those ahead did", x.gate(0, 2), 3);
    x.lay(1, 2, 3);
    due("no such one, the second", x.read(1, 1, 0, 3), -21);
    due("none did", x.gate(0, 2), 3);
    promise = 41;
    due("torn() is of the read ahead of it", x.torn(), 2);
    promise = 40;
    due("no such one, ahead of the index", x.read(1, 1, 0, 20), -21);
    x.lay(1, 2, 1);
    x.lay(1, 5, 2);
    due("no such gate, the third", x.read(1, 1, 0, 20), -22);
    x.lay(1, 5, 0);
    x.lay(1, 6, 9);
    due("bad, but not whole", x.read(1, 1, 6, 1), 0);
    due("f below 0", x.read(1, 1, -1, 1), 0);
    due("f far off", x.read(1, 1, HIGH, 20), 0);
    due("f far off", x.read(1, 1, LOW, 20), 0);
    due("f right behind", x.read(1, 1, 7, 1), 0);
    due("n is 0, f far off", x.read(1, 1, 99, 0), 0);
    promise = 41;
    due("torn() when nothing was asked", x.torn(), 0);
    due("read of another lane", x.read(1, 0, 0, 1), 0);
    due("torn()", x.torn(), 3);
    due("cast ahead of index", x.read(1, 2, 99, 1), 0);
    due("torn()", x.torn(), 3);
    due("read of nothing", x.read(2, 2, 99, 1), 0);
    due("torn()", x.torn(), 1);
    due("read that is BAD", x.read(4, 0, 0, 1), BAD);
    due("torn() stays", x.torn(), 1);
    promise = 40;
    due("read(-1, 0, 0, 1)", x.read(-1, 0, 0, 1), BAD);
    due("read(1, 3, 0, 1)", x.read(1, 3, 0, 1), BAD);
    due("read(1, -1, 0, 1)", x.read(1, -1, 0, 1), BAD);
    due("read(1, 1, 0, 21)", x.read(1, 1, 0, 21), BAD);
    due("read(1, 1, 0, -1)", x.read(1, 1, 0, -1), BAD);
    x.sheet(2, 2, 0);
    due("a sheet without cells", x.read(2, 2, 0, 1), 0);
    promise = 41;
    due("torn()", x.torn(), 2);
    promise = 40;
    x.sheet(0, 0, 40);
    due("twenty", x.read(0, 0, 0, 20), 20);
  }

  private static void counting() {
    promise = 42;
    KinGates x = told(HOUSE);
    due("count(4)", x.count(4), 1);
    x.alter(3, 1, NONE);
    due("count(4)", x.count(4), 2);
    put(x, "gate");
    due("count(2)", x.count(2), 4);
    x.see(0, false);
    due("count(0)", x.count(0), 1);
    x.keep(1);
    due("count(1)", x.count(1), 1);
    x.sheet(1, 0, 9);
    due("count(3)", x.count(3), NONE);
    x.sheet(0, 1, 9);
    due("count(3)", x.count(3), 9);
    due("count(5)", x.count(5), BAD);
    due("count(-1)", x.count(-1), BAD);
  }

  public static void main(String[] args) {
    newObject();
    feeding();
    ending();
    texts();
    faults();
    rules();
    ones();
    gates();
    pairsAndActs();
    degrees();
    forebears();
    altering();
    pairing();
    setting();
    planning();
    going();
    running();
    lining();
    sending();
    matching();
    widening();
    odds();
    seeing();
    guessing();
    drifting();
    imaging();
    sheeting();
    reading();
    counting();
    System.out.println(asked + " answers asked, " + wrong + " not as due");
    if (wrong != 0) {
      System.exit(1);
    }
  }
}
