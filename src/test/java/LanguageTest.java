import java.io.IOException;
import java.nio.file.Files;
import java.nio.file.Path;
import java.util.Set;
import java.util.TreeSet;

/** The class keeps to the rules of LANGUAGE.md; and a program that broke one of them would be found. */
public final class LanguageTest {
  private static final String[] IMPORTS = {
    "import java.util.ArrayList;", "import java.util.Arrays;", "import java.util.List;", "import java.util.NoSuchElementException;"
  };

  public static void main(String[] args) throws IOException {
    String program = Files.readString(Path.of("src/main/java/EventLog.java"));
    Check.due("EventLog.java breaks", Rules.brokenIn(program).toString(), "[]");
    Check.sentence("LANGUAGE.md, and whether this test can tell");
    rightProgramsPass();
    face();
    classesInside();
    types();
    library();
    staticFields();
    exceptions();
    recursionAndLoops();
    sizes();
    objects();
    Check.end();
  }

  private static void rightProgramsPass() {
    passes("public int size() { return hidden(3); } private int hidden(int x) { return Math.max(x, 1); }");
    passes("private static final class Own { final int[] row = new int[3]; Own(int x) { row[0] = x; } } private final Own[] own = new Own[2];");
    passes("private final ArrayList<Own> list = new ArrayList<>(); private static final class Own {} public int size() { list.add(new Own()); return list.size(); }");
    passes("private int[][] rows = new int[2][3]; private static final int[] PRIMES = {2, 3, 5}; private static final String WORD = \"word\";");
    passes("public int size() { throw new IllegalStateException(\"written\"); }");
    passes("private int seen; public int size() { try { seen = other(); } catch (IllegalStateException e) { return 0; } return seen; } private int other() { return 1; }");
    passes("public int size() { for (int k = 0; k < 3; k++) { continue; } int j = 0; while (j < 3) { j++; } return j; }");
    passes(chain(8));
  }

  private static void face() {
    breaks("1", "int size() { return 0; }");
    breaks("1", "protected int size() { return 0; }");
    breaks("1", "int seen;");
    breaks("1", "public int size() { return size(1); } private int size(int x) { return x; }");
    breaks("1", "public static final class Own {}");
    breaks("1", "private final class Own {}");
    broken("1", "public class EventLog { public EventLog() {} }");
    broken("1", "package somewhere; public final class EventLog { public EventLog() {} }");
  }

  private static void classesInside() {
    breaks("2", "private interface Job { void run(); } public int size() { Job job = () -> { }; job.run(); return 0; }");
    breaks("2", "private interface Job { int run(); } private static int one() { return 1; } public int size() { Job job = EventLog::one; return job.run(); }");
    breaks("2", "public int size() { final class Local {} return new Local() == null ? 0 : 1; }");
  }

  private static void types() {
    breaks("3", "private java.util.HashMap<Integer, Integer> map;");
    breaks("3", "private Object any;");
    breaks("3", "private int[][][] rows;");
    breaks("3", "private String[][] rows;");
    breaks("3", "private Long seen;");
    breaks("3", "private ArrayList<String> texts;");
    breaks("3", "public int size() { var map = new java.util.HashMap<Integer, Integer>(); return map == null ? 0 : 1; }");
  }

  private static void library() {
    breaks("4", "public int size() { return \"abc\".hashCode(); }");
    breaks("4", "public int size() { return Math.addExact(1, 2); }");
    breaks("4", "public int size() { int[] row = {2, 1}; Arrays.sort(row); return row[0]; }");
    breaks("4", "public int size() { System.out.println(); return 0; }");
    breaks("4", "public long time() { return System.nanoTime(); }");
    breaks("4", "public int size() { return new java.util.Random() == null ? 0 : 1; }");
    broken("4", "import java.util.HashMap; public final class EventLog { public EventLog() {} }");
  }

  private static void staticFields() {
    breaks("5", "private static int seen;");
    breaks("5", "private static final ArrayList<Integer> SEEN = new ArrayList<>();");
    breaks("5", "private static final int[] SEEN = new int[3];");
    breaks("5", "private static final int SEEN; static { SEEN = 1; }");
  }

  private static void exceptions() {
    breaks("6", "public int size() { throw new IllegalMonitorStateException(); }");
    breaks("6", "public int size() { throw new IllegalStateException(new String(new char[1])); }");
    breaks("6", "public int size() { IllegalStateException e = new IllegalStateException(); throw e; }");
    breaks("6", "private static final class Own { Own() { throw new IllegalStateException(); } }");
    breaks("6", "private int other() { return 1; } public int size() { try { return other(); } finally { other(); } }");
    breaks("6", "private int other() { return 1; } public int size() { try { return other(); } catch (IllegalStateException e) { throw new IllegalStateException(); } }");
    breaks("6", "public int size() { synchronized (this) { return 0; } }");
    breaks("6", "public synchronized int size() { return 0; }");
    breaks("6", "public int size() { assert true; return 0; }");
    breaks("6", "private String a; private String b; public boolean size() { return a == b; }");
  }

  private static void recursionAndLoops() {
    breaks("8", "public int size() { return down(3); } private static int down(int x) { return x == 0 ? 0 : down(x - 1); }");
    breaks("9", "public int size() { for (;;) { return 0; } }");
    breaks("9", "public int size() { while (true) { return 0; } }");
    breaks("9", "private boolean more; public int size() { while (more) { more = false; } return 0; }");
    breaks("9", "private boolean more; public int size() { do { more = false; } while (more); return 0; }");
    breaks("10", "private String a; public int size() { a = a + 1; return 0; }");
    breaks("10", "private String a; public int size() { a += 1; return 0; }");
  }

  private static void sizes() {
    breaks("11", "private int sum(int a, int b, int c, int d, int e, int f, int g, int h) { return a + b + c + d + e + f + g + h; }");
    breaks("11", "public int size() { int x = 0;" + "\n x++;".repeat(60) + "return x; }");
    breaks("11", numbered("private int a_; ", 21));
    breaks("11", numbered("private static final class Own_ {} ", 12));
    breaks("11", chain(9));
  }

  private static void objects() {
    breaks("12", "private final ArrayList<Integer> list = new ArrayList<>(); public int size() { int s = 0; for (int x : list) { s += x; } return s; }");
    breaks("12", "private static final class Own { Own(Own other) {} Own() { new Own(this); } }");
  }

  /** A face method with calls one inside the other, so many of them open at once. */
  private static String chain(int depth) {
    StringBuilder members = new StringBuilder("public int size() { return step1(); } ");
    for (int k = 1; k < depth; k++) {
      String inside = k == depth - 1 ? "1" : "step" + (k + 1) + "()";
      members.append("private static int step").append(k).append("() { return ").append(inside).append("; } ");
    }
    return members.toString();
  }

  private static String numbered(String member, int count) {
    StringBuilder members = new StringBuilder();
    for (int k = 0; k < count; k++) {
      members.append(member.replace("_", Integer.toString(k)));
    }
    return members.toString();
  }

  private static String program(String members) {
    return String.join("\n", IMPORTS) + "\npublic final class EventLog { public EventLog() {} " + members + "}";
  }

  private static void passes(String members) {
    Check.due(members + " breaks", Rules.brokenIn(program(members)).toString(), "[]");
  }

  private static void breaks(String rule, String members) {
    broken(rule, program(members));
  }

  private static void broken(String rule, String program) {
    Set<String> numbers = new TreeSet<>();
    for (String told : Rules.brokenIn(program)) {
      numbers.add(told.substring(0, told.indexOf(' ')));
    }
    Check.holds(program + " breaks rule " + rule + ", found broken are " + numbers, numbers.contains(rule));
  }
}
