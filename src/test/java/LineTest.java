import java.util.NoSuchElementException;

/** Promises 16 (time), 17 (about), 18 (length) and 19 (letter). */
public final class LineTest {
  private static final int[] NUMBERS = {
    0, 1, -1, 9, 10, -10, 15, 16, 255, 99, 100, 999999, 1000000, -1000000, 1234567, -7654321, Integer.MAX_VALUE, Integer.MIN_VALUE
  };

  public static void main(String[] args) {
    numbersPrinted();
    fractions();
    plain();
    longest();
    about();
    refused();
    Check.end();
  }

  private static EventLog printed(String format) {
    EventLog log = new EventLog();
    Check.site(log, format);
    for (int k = 0; k < NUMBERS.length; k++) {
      Check.log(log, 0, 0, k, NUMBERS[k]);
    }
    log.flush(0);
    Check.due("open", log.open(), NUMBERS.length);
    return log;
  }

  private static void numbersPrinted() {
    EventLog signed = printed("<{d}>");
    EventLog unsigned = printed("{u}!");
    EventLog hexadecimal = printed("{x}");
    EventLog named = printed("{e3}");
    for (int k = 0; k < NUMBERS.length; k++) {
      Check.due("d", Check.line(signed, k), "<" + NUMBERS[k] + ">");
      Check.due("u", Check.line(unsigned, k), Integer.toUnsignedString(NUMBERS[k]) + "!");
      Check.due("x", Check.line(hexadecimal, k), Integer.toHexString(NUMBERS[k]));
      Check.due("e", Check.line(named, k), Integer.toString(NUMBERS[k]));
    }
  }

  private static void fractions() {
    for (int digits = 1; digits <= 6; digits++) {
      EventLog log = printed("{f" + digits + "}");
      for (int k = 0; k < NUMBERS.length; k++) {
        String due = java.math.BigDecimal.valueOf(NUMBERS[k], digits).toPlainString();
        Check.due("f" + digits, Check.line(log, k), due);
      }
    }
    EventLog two = printed("{f2}");
    Check.due("0", Check.line(two, 0), "0.00");
    Check.due("-1", Check.line(two, 2), "-0.01");
    Check.due("100", Check.line(two, 10), "1.00");
  }

  private static void plain() {
    EventLog log = new EventLog();
    Check.site(log, "{{d}} {{{d}}} }}{t}{{ ~");
    Check.site(log, "");
    Check.log(log, 0, 0, 0, 5, "{x}");
    Check.log(log, 0, 1, 0);
    log.flush(0);
    log.open();
    Check.due("braces", Check.line(log, 0), "{d} {5} }{x}{ ~");
    Check.due("empty", log.length(1), 0);
    Check.fails("empty", IndexOutOfBoundsException.class, () -> log.letter(1, 0));
  }

  private static void longest() {
    EventLog log = new EventLog();
    String text = "\u00ff".repeat(16);
    Check.site(log, "{t}{t}{t}{t}{t}{t}" + "x".repeat(62));
    Check.log(log, 0, 0, 0, text, text, text, text, text, text);
    log.flush(0);
    log.open();
    Check.due("length", log.length(0), 158);
    Check.due("the longest line", Check.line(log, 0), text.repeat(6) + "x".repeat(62));
    EventLog numbers = new EventLog();
    Check.site(numbers, "{f6}{f6}{f6}{f6}{f6}{f6}" + "x".repeat(56));
    int least = Integer.MIN_VALUE;
    Check.log(numbers, 0, 0, 0, least, least, least, least, least, least);
    numbers.flush(0);
    numbers.open();
    Check.due("numbers", Check.line(numbers, 0), "-2147.483648".repeat(6) + "x".repeat(56));
  }

  private static void about() {
    EventLog log = new EventLog();
    Check.site(log, "");
    Check.site(log, "{d}{t}{u}{x}{f1}{e0}");
    Check.log(log, 3, 1, 77, -5, "four", -6, 7, 8, 9);
    Check.log(log, 3, 0, 78);
    log.flush(3);
    log.open();
    int[] due = {3, 1, -5, 4, -6, 7, 8, 9};
    for (int what = -2; what <= 5; what++) {
      Check.due("about " + what, log.about(0, what), due[what + 2]);
    }
    Check.due("time", log.time(0), 77);
    Check.due("time", log.time(1), 78);
    Check.due("writer", log.about(1, -2), 3);
    Check.due("site", log.about(1, -1), 0);
    for (int what = 0; what <= 5; what++) {
      int slot = what;
      Check.fails("no slot " + what, NoSuchElementException.class, () -> log.about(1, slot));
    }
    int[] wrong = {-3, 6, Integer.MIN_VALUE, Integer.MAX_VALUE};
    for (int what : wrong) {
      Check.fails("about " + what, IndexOutOfBoundsException.class, () -> log.about(0, what));
      Check.fails("about " + what, IndexOutOfBoundsException.class, () -> log.about(1, what));
      Check.fails("no line counts first", NoSuchElementException.class, () -> log.about(2, what));
    }
  }

  private static void refused() {
    EventLog log = printed("{d}");
    int[] wrong = {-1, NUMBERS.length, Integer.MIN_VALUE, Integer.MAX_VALUE};
    for (int line : wrong) {
      Check.fails("time", NoSuchElementException.class, () -> log.time(line));
      Check.fails("about", NoSuchElementException.class, () -> log.about(line, -2));
      Check.fails("length", NoSuchElementException.class, () -> log.length(line));
      Check.fails("letter", NoSuchElementException.class, () -> log.letter(line, 0));
      Check.fails("letter", NoSuchElementException.class, () -> log.letter(line, -1));
    }
    Check.due("the last letter", log.letter(NUMBERS.length - 1, 10), '8');
    Check.fails("letter 11", IndexOutOfBoundsException.class, () -> log.letter(NUMBERS.length - 1, 11));
    Check.fails("letter -1", IndexOutOfBoundsException.class, () -> log.letter(0, -1));
    Check.fails("letter 1", IndexOutOfBoundsException.class, () -> log.letter(0, 1));
    Check.fails("greatest", IndexOutOfBoundsException.class, () -> log.letter(0, Integer.MAX_VALUE));
  }
}
