import java.lang.management.ManagementFactory;
import java.lang.reflect.Array;
import java.lang.reflect.Constructor;
import java.lang.reflect.Field;
import java.lang.reflect.Method;
import java.lang.reflect.Modifier;
import java.nio.file.Files;
import java.nio.file.Path;
import java.util.ArrayDeque;
import java.util.Collections;
import java.util.IdentityHashMap;
import java.util.List;
import java.util.Set;
import java.util.TreeSet;
import java.util.regex.Matcher;
import java.util.regex.Pattern;

/** The document's face to the letter, those rules of LANGUAGE.md that can be looked up, the room. */
public final class KinGatesFace {
  private static final String[] FACE = {
    "int feed(int)", "int end(int)", "int text()", "int fault()", "int rule(int)", "int one(int,int)",
    "int gate(int,int)", "int pair(int,int)", "int act(int)", "int degree(int,int)", "int forebear(int,int)",
    "int alter(int,int,int)", "int marry(int,int)", "int feud(int,int)", "int undo(int,int)",
    "int set(int,int,int)", "int plan(int)", "int cut(int)", "int go(int,int)", "int runs(int)",
    "int ahead(int)", "int line(int,int)", "int send(int,int,int)", "int match(int,int)", "int widen()",
    "int apart(int)", "long mean(int,int)", "long luck(int,int,int)", "int see(int,boolean)",
    "int forget(int)", "int parents(int)", "int reaches(int)", "int look(int,int)",
    "int drift(int,int,int)", "int keep(int)", "int back(int)", "int sheet(int,int,int)",
    "int lay(int,int,int)", "int read(int,int,int,int)", "int torn()", "int count(int)"
  };
  private static final TreeSet<String> CONSTANTS = new TreeSet<>(List.of("BAD", "STATE", "FULL", "NONE"));

  private static int wrong = 0;

  private static void holds(String what, boolean is) {
    if (!is) {
      wrong++;
      System.out.println("not so: " + what);
    }
  }

  private static String signature(Method m) {
    StringBuilder b = new StringBuilder(m.getReturnType().getName()).append(' ').append(m.getName()).append('(');
    for (int i = 0; i < m.getParameterCount(); i++) {
      b.append(i > 0 ? "," : "").append(m.getParameterTypes()[i].getName());
    }
    return b.append(')').toString();
  }

  private static void face() {
    Class<?> c = KinGates.class;
    holds("the class is public and final", Modifier.isPublic(c.getModifiers()) && Modifier.isFinal(c.getModifiers()));
    TreeSet<String> seen = new TreeSet<>();
    for (Method m : c.getDeclaredMethods()) {
      if (!Modifier.isPrivate(m.getModifiers())) seen.add(signature(m));
      holds(m + " is not static in the face", Modifier.isPrivate(m.getModifiers()) || !Modifier.isStatic(m.getModifiers()));
    }
    holds("the face is " + seen, seen.equals(new TreeSet<>(List.of(FACE))));
    TreeSet<String> constants = new TreeSet<>();
    for (Field f : c.getDeclaredFields()) {
      if (!Modifier.isPrivate(f.getModifiers())) constants.add(f.getName());
    }
    holds("the constants are " + constants, constants.equals(CONSTANTS));
    Constructor<?>[] made = c.getDeclaredConstructors();
    holds("one public constructor", made.length == 1 && made[0].getParameterCount() == 0 && Modifier.isPublic(made[0].getModifiers()));
  }

  private static void classesInside() {
    TreeSet<String> names = new TreeSet<>();
    for (String s : FACE) names.add(s.substring(s.indexOf(' ') + 1, s.indexOf('(')));
    Class<?>[] inside = KinGates.class.getDeclaredClasses();
    holds("at most twelve classes", inside.length + 1 <= 12);
    check(KinGates.class, names);
    for (Class<?> c : inside) {
      holds(c + " is static", Modifier.isStatic(c.getModifiers()));
      holds(c + " is not public", !Modifier.isPublic(c.getModifiers()) && !Modifier.isProtected(c.getModifiers()));
      check(c, names);
      for (Constructor<?> made : c.getDeclaredConstructors()) {
        holds(made + " is given nothing of the object that is being made", made.getParameterCount() == 0);
      }
    }
  }

  private static void check(Class<?> c, TreeSet<String> names) {
    int fields = 0;
    for (Field f : c.getDeclaredFields()) {
      boolean fixed = Modifier.isStatic(f.getModifiers());
      holds(f + " is final", !fixed || Modifier.isFinal(f.getModifiers()));
      if (!fixed) fields++;
    }
    holds(c + " has at most twenty fields", fields <= 20);
    for (Method m : c.getDeclaredMethods()) {
      holds(m + " takes at most seven", m.getParameterCount() <= 7);
      boolean own = c == KinGates.class && !Modifier.isPrivate(m.getModifiers());
      holds(m + " bears no name of the face", own || !names.contains(m.getName()));
    }
  }

  private static void source(String text) {
    String code = text.replaceAll("(?s)/\\*.*?\\*/", "").replaceAll("//[^\n]*", "");
    String[] words = {"throw", "throws", "try", "catch", "synchronized", "assert", "package", "import",
        "Object", "System\\.(?!arraycopy)", "Exact", "->", "::", "hashCode", "toString", "native", "volatile"};
    for (String w : words) {
      Matcher m = Pattern.compile(w.matches("[A-Za-z]+") ? "\\b" + w + "\\b" : w).matcher(code);
      holds("the source has no " + w, !m.find());
    }
    holds("signs are below 128", text.chars().allMatch(ch -> ch < 128));
    Matcher loop = Pattern.compile("while \\(true\\)|for \\(;").matcher(code);
    holds("no loop without an end", !loop.find());
    int from = -1;
    String[] rows = text.split("\n");
    for (int i = 0; i < rows.length; i++) {
      if (rows[i].matches(" {2}( {2})?[A-Za-z].*\\) \\{")) from = i;
      if (rows[i].matches(" {2}( {2})?\\}") && from >= 0) {
        holds("the method at line " + (from + 1) + " is short", i - from < 60);
        from = -1;
      }
    }
  }

  private static final String TEXT = "plain;plain 0;adopted 0;bastard 1;estrange 2;plain 3;marry 3 4;"
      + "feud 0 3;gate 2;gate 1 3;gate 4;plan 0 10 30 31 20 41 52 2;";

  private static void callAll(KinGates x, int v) {
    for (int i = 0; i < TEXT.length(); i++) x.feed(TEXT.charAt(i));
    x.end(x.count(2));
    x.text();
    x.fault();
    for (int w = -1; w < 17; w++) {
      x.rule(w); x.one(v, w); x.gate(v, w); x.pair(v, w); x.act(w); x.degree(v, w); x.forebear(v, w);
      x.alter(v, 1, w); x.marry(v, w); x.feud(v, w); x.undo(v, w); x.set(v, 0, w); x.cut(w); x.plan(w);
      x.go(v, w); x.runs(w); x.ahead(w); x.line(v, w); x.send(v, 0, w); x.match(v, w); x.widen(); x.apart(w);
      x.mean(v, w); x.luck(v, w, 0); x.see(w, true); x.forget(w); x.parents(w); x.reaches(w); x.look(v, w);
      x.drift(v, 60, w); x.keep(w); x.back(w); x.sheet(v, w, 40); x.lay(v, w, w); x.read(v, w, 0, 20);
      x.torn(); x.count(w);
    }
  }

  /** All calls share one room, so none may make an object. */
  private static void room() {
    com.sun.management.ThreadMXBean bean = (com.sun.management.ThreadMXBean) ManagementFactory.getThreadMXBean();
    long me = Thread.currentThread().getId();
    KinGates x = new KinGates();
    for (int v = -1; v < 7; v++) callAll(x, v);
    long before = bean.getThreadAllocatedBytes(me);
    for (int round = 0; round < 100; round++) {
      for (int v = -1; v < 7; v++) callAll(x, v);
    }
    long used = bean.getThreadAllocatedBytes(me) - before;
    holds("half a million calls make no objects, but took " + used + " bytes", used < 100_000);
  }

  /** Objects and arrays that a new object is made of, and their fields and elements. */
  private static void roomOfOne() throws Exception {
    Set<Object> met = Collections.newSetFromMap(new IdentityHashMap<>());
    ArrayDeque<Object> open = new ArrayDeque<>(List.of(new KinGates()));
    int fields = 0;
    while (!open.isEmpty()) {
      Object o = open.pop();
      if (!met.add(o)) continue;
      if (o.getClass().isArray()) {
        holds("rows are of numbers", o.getClass().getComponentType().isPrimitive());
        fields += Array.getLength(o);
        continue;
      }
      for (Field f : o.getClass().getDeclaredFields()) {
        if (Modifier.isStatic(f.getModifiers())) continue;
        fields++;
        f.setAccessible(true);
        if (f.getType().isPrimitive()) continue;
        holds(f + " is there from the first", f.get(o) != null && Modifier.isFinal(f.getModifiers()));
        if (f.get(o) != null) open.push(f.get(o));
      }
    }
    holds("a new object is made of " + met.size() + " objects, at most 120", met.size() <= 120);
    holds("a new object has " + fields + " fields and elements, at most 2400", fields <= 2400);
  }

  /** Whatever the numbers are, a call answers. */
  private static void farNumbers() {
    int[] far = {Integer.MIN_VALUE, Integer.MIN_VALUE + 1, -60, -5, -4, -1, 0, 1, 2, 9, 10, 15, 40, 1 << 16,
        Integer.MAX_VALUE - 1, Integer.MAX_VALUE};
    for (int start = 0; start < 2; start++) {
      KinGates x = new KinGates();
      if (start == 1) callAll(x, 0);
      for (int a : far) {
        x.feed(a); x.end(a); x.rule(a); x.act(a); x.plan(a); x.cut(a); x.runs(a); x.ahead(a); x.apart(a);
        x.see(a, false); x.forget(a); x.parents(a); x.reaches(a); x.keep(a); x.back(a); x.count(a);
        for (int b : far) {
          x.one(a, b); x.gate(a, b); x.pair(a, b); x.degree(a, b); x.forebear(a, b); x.marry(a, b); x.feud(a, b);
          x.undo(a, b); x.go(a, b); x.line(a, b); x.match(a, b); x.mean(a, b); x.look(a, b);
          for (int c : far) {
            x.alter(a, b, c); x.set(a, b, c); x.send(a, b, c); x.luck(a, b, c); x.drift(a, b, c);
            x.sheet(a, b, c); x.lay(a, b, c);
            for (int d : far) x.read(a, b, c, d);
          }
        }
      }
    }
  }

  public static void main(String[] args) throws Exception {
    face();
    classesInside();
    source(Files.readString(Path.of("src/main/java/KinGates.java")));
    room();
    roomOfOne();
    farNumbers();
    System.out.println(wrong == 0 ? "face, language and room are as due" : wrong + " are not as due");
    if (wrong != 0) System.exit(1);
  }
}
