import java.util.ArrayList;
import java.util.List;

/** What the tests share: calls with the answer or the exception that is due, and ways to type and read texts. */
final class Check {
  interface Call {
    long answer();
  }

  interface Steps {
    void on(Counted log);
  }

  private static int checks = 0;
  private static int wrong = 0;
  private static String sentence = "";

  private Check() {}

  /** The words of the document that the checks from here on are of. */
  static void sentence(String words) {
    sentence = words;
  }

  static void due(String what, long got, long want) {
    checks++;
    if (got != want) {
      report(what + " answered " + got + ", due is " + want);
    }
  }

  static void due(String what, String got, String want) {
    checks++;
    if (!got.equals(want)) {
      report(what + " answered '" + got + "', due is '" + want + "'");
    }
  }

  static void holds(String what, boolean answer) {
    due(what, answer ? 1 : 0, 1);
  }

  static void fails(String what, Class<? extends RuntimeException> want, Call call) {
    due(what, outcome(call), want.getSimpleName());
  }

  static void refuses(String what, Class<? extends RuntimeException> want, Counted log, Steps steps) {
    fails(what, want, () -> {
      steps.on(log);
      return 0;
    });
  }

  /** The answer of a call, or the name of the exception that it throws. */
  static String outcome(Call call) {
    try {
      return Long.toString(call.answer());
    } catch (RuntimeException e) {
      return e.getClass().getSimpleName();
    }
  }

  static void report(String text) {
    wrong++;
    System.out.println(text + (sentence.isEmpty() ? "" : "\n    the document: " + sentence));
  }

  static void end() {
    System.out.println(checks + " checks, " + wrong + " wrong");
    if (wrong != 0 || checks == 0) {
      System.exit(1);
    }
  }

  static void type(Counted log, String text) {
    for (int from = 0; from < text.length(); from += 8) {
      int n = Math.min(8, text.length() - from);
      long word = 0;
      for (int k = 0; k < n; k++) {
        word |= (long) text.charAt(from + k) << (8 * k);
      }
      if (!log.type(word, n)) {
        report("typing failed at byte " + from + " of '" + text + "'");
      }
    }
  }

  static int site(Counted log, String format) {
    type(log, format);
    return log.site();
  }

  static void name(Counted log, int table, int code, String text) {
    type(log, text);
    log.name(table, code);
  }

  static int text(Counted log, String text) {
    type(log, text);
    return log.text();
  }

  static int search(Counted log, String text) {
    type(log, text);
    return log.search();
  }

  /** Logs with arguments that are Integers or Strings. */
  static int log(Counted log, int writer, int site, long time, Object... arguments) {
    give(log, arguments);
    return log.log(writer, site, time);
  }

  static void give(Counted log, Object... arguments) {
    for (Object argument : arguments) {
      if (argument instanceof String) {
        text(log, (String) argument);
      } else {
        log.arg((Integer) argument);
      }
    }
  }

  /** An object that has read one event of a format, as its line 0. */
  static Counted oneLine(String format, Object... arguments) {
    Counted log = new Counted();
    due("site of " + format, site(log, format), 0);
    log(log, 0, 0, 0, arguments);
    log.flush(0);
    due("lines", log.open(), 1);
    return log;
  }

  static void prints(String due, String format, Object... arguments) {
    due(format + " printed", line(oneLine(format, arguments), 0), due);
  }

  static String line(Counted log, int line) {
    StringBuilder text = new StringBuilder();
    int length = log.length(line);
    for (int k = 0; k < length; k++) {
      text.append((char) log.letter(line, k));
    }
    return text.toString();
  }

  /** The bytes of the file from one place on, with blanks between them. */
  static String bytes(Counted log, int from, int count) {
    List<String> bytes = new ArrayList<>();
    for (int k = 0; k < count; k++) {
      bytes.add(Integer.toString(log.byteOf(from + k)));
    }
    return String.join(" ", bytes);
  }
}
