import java.io.IOException;
import java.io.UncheckedIOException;
import java.lang.reflect.Method;
import java.lang.reflect.Modifier;
import java.nio.file.Files;
import java.nio.file.Path;
import java.util.ArrayList;
import java.util.Comparator;
import java.util.List;
import java.util.Set;
import java.util.TreeSet;
import java.util.regex.Matcher;
import java.util.regex.Pattern;
import java.util.stream.Stream;

/** README.md: what it shows is there, and what it says to do is done as it stands, in a copy of the project. */
public final class ReadmeTest {
  private static final Path PROJECT = Path.of("").toAbsolutePath();
  private static final String README = read(PROJECT.resolve("README.md"));

  /** What a command answered: all that it printed, and its exit code. */
  private record Done(String printed, int code) {}

  public static void main(String[] args) throws IOException {
    Path room = Files.createTempDirectory("readme");
    try {
      Path copy = copyOfProject(room);
      theExampleIsShown();
      theExampleRuns(copy);
      theExampleMakesFewCalls(room);
      oneTestRuns(copy);
      allTestsRun();
    } finally {
      removeAll(room);
    }
    callsAreTold();
    classesAreTold();
    testsAreTold();
    Check.end();
  }

  private static void theExampleIsShown() {
    Check.due("the program in README.md", blocks("java").get(0), read(PROJECT.resolve("src/example/java/Example.java")));
  }

  private static void theExampleRuns(Path copy) {
    Done done = run(copy, blocks("sh").get(0));
    Check.due("the example printed", done.printed, blocks("text").get(0));
    Check.due("the example's exit code", done.code, 0);
  }

  /** Counted has the same calls, and prints something if there are more of them than an object is good for. */
  private static void theExampleMakesFewCalls(Path room) throws IOException {
    String counted = read(PROJECT.resolve("src/example/java/Example.java")).replace("EventLog", "Counted");
    Files.writeString(room.resolve("Example.java"), counted);
    String classes = System.getProperty("java.class.path") + ":" + room;
    String absolute = Stream.of(classes.split(":")).map(p -> PROJECT.resolve(p).toString()).reduce((a, b) -> a + ":" + b).get();
    Done done = run(room, "javac -cp " + absolute + " -d . Example.java\njava -cp " + absolute + " Example\n");
    Check.due("the example with its calls counted printed", done.printed, blocks("text").get(0));
  }

  private static void oneTestRuns(Path copy) {
    Done done = run(copy, blocks("sh").get(2));
    Check.holds("one test says how many checks it made: " + done.printed, done.printed.matches("(?s)\\d+ checks, 0 wrong\n.*"));
    Check.due("its exit code", done.code, 0);
  }

  /** This test is one of them, so they are not run once more: only that there is such a command. */
  private static void allTestsRun() {
    Check.due("the command for all tests", blocks("sh").get(1), ".ci/run\n");
    Check.holds("it can be run", Files.isExecutable(PROJECT.resolve(".ci/run")));
    Check.due("no command more is told", blocks("sh").size(), 3);
  }

  private static void callsAreTold() {
    Set<String> face = new TreeSet<>();
    for (Method method : EventLog.class.getDeclaredMethods()) {
      if (Modifier.isPublic(method.getModifiers())) {
        face.add(method.getName());
      }
    }
    Check.due("the calls in README.md", firstColumn("calls").toString(), face.toString());
  }

  private static void classesAreTold() {
    Set<String> inside = new TreeSet<>();
    for (Class<?> type : EventLog.class.getDeclaredClasses()) {
      inside.add(type.getSimpleName());
    }
    Check.due("the classes in README.md", firstColumn("class").toString(), inside.toString());
  }

  private static void testsAreTold() throws IOException {
    Set<String> told = new TreeSet<>(quoted(lastColumn("promises")));
    for (String line : README.split("\n")) {
      if (line.matches("- `[A-Z]\\w+`: .*")) {
        told.add(quoted(line).get(0));
      }
    }
    Set<String> there = new TreeSet<>();
    try (Stream<Path> files = Files.list(PROJECT.resolve("src/test/java"))) {
      files.forEach(file -> there.add(file.getFileName().toString().replace(".java", "")));
    }
    Check.due("the tests and what they share in README.md", told.toString(), there.toString());
  }

  /** The blocks of code of one language, in their order. */
  private static List<String> blocks(String language) {
    List<String> blocks = new ArrayList<>();
    Matcher fence = Pattern.compile("(?s)```" + language + "\n(.*?)```\n").matcher(README);
    while (fence.find()) {
      blocks.add(fence.group(1));
    }
    return blocks;
  }

  private static List<String> rows(String heading) {
    List<String> rows = new ArrayList<>();
    boolean inTable = false;
    for (String line : README.split("\n")) {
      inTable = line.startsWith("| " + heading + " |") || (inTable && line.startsWith("|"));
      if (inTable) {
        rows.add(line);
      }
    }
    return rows.subList(2, rows.size());
  }

  private static Set<String> firstColumn(String heading) {
    Set<String> found = new TreeSet<>();
    for (String row : rows(heading)) {
      found.addAll(quoted(row.split("\\|")[1]));
    }
    return found;
  }

  private static String lastColumn(String heading) {
    StringBuilder found = new StringBuilder();
    for (String row : rows(heading)) {
      found.append(row.split("\\|")[2]);
    }
    return found.toString();
  }

  private static List<String> quoted(String text) {
    List<String> quoted = new ArrayList<>();
    Matcher mark = Pattern.compile("`(.*?)`").matcher(text);
    while (mark.find()) {
      quoted.add(mark.group(1));
    }
    return quoted;
  }

  private static Path copyOfProject(Path room) throws IOException {
    Path copy = Files.createDirectory(room.resolve("project"));
    Files.createSymbolicLink(room.resolve("shared"), PROJECT.resolveSibling("shared"));
    Path from = PROJECT.resolve("src");
    try (Stream<Path> files = Files.walk(from)) {
      for (Path file : (Iterable<Path>) files::iterator) {
        Files.copy(file, copy.resolve("src").resolve(from.relativize(file)));
      }
    }
    return copy;
  }

  private static void removeAll(Path room) throws IOException {
    try (Stream<Path> files = Files.walk(room)) {
      for (Path file : (Iterable<Path>) files.sorted(Comparator.reverseOrder())::iterator) {
        Files.delete(file);
      }
    }
  }

  private static Done run(Path where, String commands) {
    try {
      Process process = new ProcessBuilder("sh", "-e", "-c", commands).directory(where.toFile()).redirectErrorStream(true).start();
      String printed = new String(process.getInputStream().readAllBytes());
      return new Done(printed, process.waitFor());
    } catch (IOException | InterruptedException e) {
      return new Done(e.toString(), 1);
    }
  }

  private static String read(Path file) {
    try {
      return Files.readString(file);
    } catch (IOException e) {
      throw new UncheckedIOException(e);
    }
  }
}
