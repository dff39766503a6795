import java.lang.reflect.Method;
import java.lang.reflect.Modifier;
import java.nio.file.DirectoryStream;
import java.nio.file.Files;
import java.nio.file.Path;
import java.util.regex.Matcher;
import java.util.regex.Pattern;

/** What README.md shows is so: the answers beside its calls, its lists of calls and of tests. */
public final class KinGatesReadme {
  private static final Pattern TEXT = Pattern.compile("String text = \"([^\"]*)\";");
  private static final Pattern CALL = Pattern.compile("x\\.(\\w+)\\(([^()]*)\\); +// (-?\\d+)\\b.*");

  private static int wrong = 0;

  private static void holds(String what, boolean is) {
    if (!is) {
      wrong++;
      System.out.println("not so: " + what);
    }
  }

  private static Method named(String name) {
    for (Method m : KinGates.class.getDeclaredMethods()) {
      if (m.getName().equals(name) && Modifier.isPublic(m.getModifiers())) return m;
    }
    return null;
  }

  private static long answer(KinGates x, String name, String numbers) throws Exception {
    Method m = named(name);
    if (m == null) return Long.MIN_VALUE;
    String[] told = numbers.isEmpty() ? new String[0] : numbers.split(", *");
    Object[] given = new Object[told.length];
    for (int i = 0; i < told.length; i++) {
      given[i] = told[i].equals("true") || told[i].equals("false")
          ? (Object) Boolean.valueOf(told[i]) : (Object) Integer.valueOf(told[i]);
    }
    return ((Number) m.invoke(x, given)).longValue();
  }

  private static void example(String block) throws Exception {
    KinGates x = new KinGates();
    Matcher text = TEXT.matcher(block);
    holds("the example tells a text", text.find());
    for (char c : text.group(1).toCharArray()) x.feed(c);
    int shown = 0;
    for (String row : block.split("\n")) {
      Matcher call = CALL.matcher(row);
      if (call.matches()) {
        shown++;
        long got = answer(x, call.group(1), call.group(2));
        holds(row + " answered " + got, got == Long.parseLong(call.group(3)));
      } else {
        holds("the row has its answer: " + row, !row.startsWith("x."));
      }
    }
    holds("the example shows answers", shown > 20);
  }

  private static void lists(String page) throws Exception {
    for (Method m : KinGates.class.getDeclaredMethods()) {
      if (Modifier.isPublic(m.getModifiers())) {
        holds("the page names " + m.getName(), page.contains("`" + m.getName() + "`"));
      }
    }
    try (DirectoryStream<Path> tests = Files.newDirectoryStream(Path.of("src/test/java"), "*.java")) {
      for (Path test : tests) {
        String name = test.getFileName().toString().replace(".java", "");
        holds("the page tells of " + name, page.contains("- `" + name + "`: "));
      }
    }
    holds("the page says how the tests are run", page.contains("\n.ci/run\n"));
  }

  public static void main(String[] args) throws Exception {
    String page = Files.readString(Path.of("README.md"));
    Matcher block = Pattern.compile("(?s)```java\n(.*?)```").matcher(page);
    holds("the page has an example", block.find());
    if (wrong == 0) example(block.group(1));
    lists(page);
    System.out.println(wrong == 0 ? "README.md is as due" : wrong + " are not as due");
    if (wrong != 0) System.exit(1);
  }
}
