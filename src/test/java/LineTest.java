import java.math.BigDecimal;
import java.util.NoSuchElementException;

/** Promises 16 (time), 17 (about), 18 (length) and 19 (letter). */
public final class LineTest {
  private static final int LEAST = Integer.MIN_VALUE;
  private static final int GREATEST = Integer.MAX_VALUE;
  private static final int[] NUMBERS = {
    0, 1, -1, 9, 10, -9, -10, 15, 16, 255, 256, 99, 100, 101, 999999, 1000000, -999999, -1000000, 1234567, -7654321,
    0x0FFFFFFF, 0x10000000, GREATEST - 1, GREATEST, LEAST, LEAST + 1
  };

  public static void main(String[] args) {
    signed();
    unsigned();
    hexadecimal();
    pointed();
    pointedAtTheEdges();
    named();
    texts();
    plainBytes();
    longestLines();
    times();
    about();
    aboutTexts();
    noSuchSlot();
    anotherWhat();
    noSuchLine();
    noLinesAtAll();
    lengths();
    letters();
    Check.end();
  }

  /** An object whose lines are the numbers, one behind the other, of one slot. */
  private static Counted printed(String format) {
    Counted log = new Counted();
    Check.site(log, format);
    for (int k = 0; k < NUMBERS.length; k++) {
      Check.log(log, 0, 0, k, NUMBERS[k]);
    }
    log.flush(0);
    Check.due("open", log.open(), NUMBERS.length);
    return log;
  }

  private static void signed() {
    Check.sentence("{d} a signed number,");
    Counted log = printed("{d}");
    for (int k = 0; k < NUMBERS.length; k++) {
      Check.due("d", Check.line(log, k), Integer.toString(NUMBERS[k]));
    }
    Check.prints("-2147483648", "{d}", LEAST);
    Check.prints("2147483647", "{d}", GREATEST);
    Check.prints("<-1>", "<{d}>", -1);
    Check.prints("0", "{d}", 0);
  }

  private static void unsigned() {
    Check.sentence("{u} the same 32 bits without a sign,");
    Counted log = printed("{u}");
    for (int k = 0; k < NUMBERS.length; k++) {
      Check.due("u", Check.line(log, k), Integer.toUnsignedString(NUMBERS[k]));
    }
    Check.prints("0", "{u}", 0);
    Check.prints("2147483647", "{u}", GREATEST);
    Check.prints("2147483648", "{u}", LEAST);
    Check.prints("4294967295", "{u}", -1);
  }

  private static void hexadecimal() {
    Check.sentence("{x} these in hexadecimal digits (0 .. 9, a .. f, no zeros before),");
    Counted log = printed("{x}");
    for (int k = 0; k < NUMBERS.length; k++) {
      Check.due("x", Check.line(log, k), Integer.toHexString(NUMBERS[k]));
    }
    Check.prints("0", "{x}", 0);
    Check.prints("9", "{x}", 9);
    Check.prints("a", "{x}", 10);
    Check.prints("f", "{x}", 15);
    Check.prints("10", "{x}", 16);
    Check.prints("fffffff", "{x}", 0x0FFFFFFF);
    Check.prints("10000000", "{x}", 0x10000000);
    Check.prints("7fffffff", "{x}", GREATEST);
    Check.prints("80000000", "{x}", LEAST);
    Check.prints("ffffffff", "{x}", -1);
    Check.prints("90abcdef", "{x}", 0x90ABCDEF);
    Check.prints("100", "{x}", 256);
  }

  private static void pointed() {
    Check.sentence("{f1} to {f6} a signed number with so many digits behind a point (at least one before it),");
    for (int digits = 1; digits <= 6; digits++) {
      Counted log = printed("{f" + digits + "}");
      for (int k = 0; k < NUMBERS.length; k++) {
        String due = BigDecimal.valueOf(NUMBERS[k], digits).toPlainString();
        Check.due("f" + digits, Check.line(log, k), due);
      }
    }
  }

  private static void pointedAtTheEdges() {
    int one = 1;
    for (int digits = 1; digits <= 6; digits++) {
      one *= 10;
      String format = "{f" + digits + "}";
      String nines = "9".repeat(digits);
      String zeros = "0".repeat(digits);
      Check.prints("0." + zeros, format, 0);
      Check.prints("0." + nines, format, one - 1);
      Check.prints("-0." + nines, format, 1 - one);
      Check.prints("1." + zeros, format, one);
      Check.prints("-1." + zeros, format, -one);
      Check.prints("9." + nines, format, 10 * one - 1);
      Check.prints("10." + zeros, format, 10 * one);
      Check.prints("0." + zeros.substring(1) + "1", format, 1);
      Check.prints("-0." + zeros.substring(1) + "1", format, -1);
    }
    Check.prints("-2147.483648", "{f6}", LEAST);
    Check.prints("2147.483647", "{f6}", GREATEST);
    Check.prints("-214748364.8", "{f1}", LEAST);
    Check.prints("214748364.7", "{f1}", GREATEST);
  }

  private static void named() {
    Check.sentence("{e0} to {e7} what the table of that number names it, or a signed number if that names it not;");
    Counted log = printed("{e3}");
    for (int k = 0; k < NUMBERS.length; k++) {
      Check.due("e", Check.line(log, k), Integer.toString(NUMBERS[k]));
    }
    for (int table = 0; table < 8; table++) {
      Check.name(log, table, 16, "table " + table);
    }
    Check.due("table 3 alone", Check.line(log, 8), "table 3");
    Check.due("its neighbour", Check.line(log, 7), "15");
  }

  private static void texts() {
    Check.sentence("{t} a text.");
    Check.prints("", "{t}", "");
    Check.prints("[]", "[{t}]", "");
    Check.prints("{x}{{", "{t}", "{x}{{");
    Check.prints("y".repeat(16), "{t}", "y".repeat(16));
    Check.prints("\0\u00ff\u0080\n", "{t}", "\0\u00ff\u0080\n");
  }

  private static void plainBytes() {
    Check.sentence("all else is printed as it stands ({{ is one {, }} one })");
    StringBuilder first = new StringBuilder();
    StringBuilder second = new StringBuilder();
    for (char b = 32; b <= 126; b++) {
      if (b != '{' && b != '}') {
        (b < 80 ? first : second).append(b);
      }
    }
    Check.prints(first.toString(), first.toString());
    Check.prints(second.toString(), second.toString());
    Check.prints("{d} {5} }{x}{ ~", "{{d}} {{{d}}} }}{t}{{ ~", 5, "{x}");
    Check.prints("{".repeat(40), "{{".repeat(40));
    Check.prints("}".repeat(40), "}}".repeat(40));
    Check.due("an empty format", Check.oneLine("").length(0), 0);
  }

  private static void longestLines() {
    String text = "\u00ff".repeat(16);
    Object[] full = {text, text, text, text, text, text};
    Check.due("length", Check.oneLine("{t}{t}{t}{t}{t}{t}" + "x".repeat(62), full).length(0), 158);
    Check.prints(text.repeat(6) + "x".repeat(62), "{t}{t}{t}{t}{t}{t}" + "x".repeat(62), full);
    Object[] least = {LEAST, LEAST, LEAST, LEAST, LEAST, LEAST};
    Check.prints("-2147.483648".repeat(6) + "x".repeat(56), "{f6}{f6}{f6}{f6}{f6}{f6}" + "x".repeat(56), least);
    Check.prints("-2147483648".repeat(6) + "x".repeat(62), "{d}{d}{d}{d}{d}{d}" + "x".repeat(62), least);
    Check.prints("x".repeat(80), "x".repeat(80));
  }

  private static void times() {
    Check.sentence("The time of a line. NoSuchElementException.");
    Counted log = new Counted();
    log.site();
    long[] times = {0, 0, 1, GREATEST, 1L + GREATEST, 1L << 62, Long.MAX_VALUE};
    for (long time : times) {
      log.log(0, 0, time);
    }
    log.flush(0);
    log.open();
    for (int k = 0; k < times.length; k++) {
      Check.due("time(" + k + ")", log.time(k), times[k]);
    }
  }

  /** Line 0 has six slots, line 1 none; all of writer 3. */
  private static Counted sixAndNone() {
    Counted log = new Counted();
    log.site();
    Check.site(log, "{d}{t}{u}{x}{f1}{e0}");
    Check.log(log, 3, 1, 77, -5, "four", -6, 7, 8, 9);
    Check.log(log, 3, 0, 78);
    log.flush(3);
    log.open();
    return log;
  }

  private static void about() {
    Check.sentence("Of a line: -2 its writer, -1 its site, 0 .. 5 the number of that slot, or the size of its text.");
    Counted log = sixAndNone();
    int[] due = {3, 1, -5, 4, -6, 7, 8, 9};
    for (int what = -2; what <= 5; what++) {
      Check.due("about " + what, log.about(0, what), due[what + 2]);
    }
    Check.due("writer", log.about(1, -2), 3);
    Check.due("site", log.about(1, -1), 0);
    String[] kinds = {"{d}", "{u}", "{x}", "{f1}", "{f6}", "{e0}", "{e7}"};
    for (String kind : kinds) {
      Counted numbers = printed(kind);
      for (int k = 0; k < NUMBERS.length; k++) {
        Check.due(kind, numbers.about(k, 0), NUMBERS[k]);
      }
    }
  }

  private static void aboutTexts() {
    Check.due("an empty one", Check.oneLine("{t}", "").about(0, 0), 0);
    Check.due("of one", Check.oneLine("{t}", "y").about(0, 0), 1);
    Check.due("of 16", Check.oneLine("{t}", "y".repeat(16)).about(0, 0), 16);
  }

  private static void noSuchSlot() {
    Check.sentence("NoSuchElementException, also when there is no such slot;");
    for (int slots = 0; slots <= 6; slots++) {
      Object[] ones = new Object[slots];
      java.util.Arrays.fill(ones, 1);
      Counted log = Check.oneLine("{d}".repeat(slots), ones);
      for (int what = 0; what <= 5; what++) {
        int slot = what;
        String due = what < slots ? "1" : "NoSuchElementException";
        Check.due("slot " + what + " of " + slots, Check.outcome(() -> log.about(0, slot)), due);
      }
    }
  }

  private static void anotherWhat() {
    Check.sentence("IndexOutOfBoundsException for another what.");
    Counted log = sixAndNone();
    int[] wrong = {-3, 6, 7, LEAST, GREATEST};
    for (int what : wrong) {
      Check.fails("about " + what, IndexOutOfBoundsException.class, () -> log.about(0, what));
      Check.fails("about " + what, IndexOutOfBoundsException.class, () -> log.about(1, what));
    }
  }

  private static void noSuchLine() {
    Check.sentence("NoSuchElementException: there is no such site, writer, table, code, or line.");
    Counted log = printed("{d}");
    int[] wrong = {-1, NUMBERS.length, NUMBERS.length + 1, LEAST, GREATEST};
    for (int line : wrong) {
      noSuchLine(log, line);
    }
    Check.due("the last", log.time(NUMBERS.length - 1), NUMBERS.length - 1);
    Check.due("the last", log.about(NUMBERS.length - 1, 0), LEAST + 1);
    Check.due("the last", log.length(NUMBERS.length - 1), 11);
    Check.due("the last", log.letter(NUMBERS.length - 1, 10), '7');
  }

  private static void noSuchLine(Counted log, int line) {
    Check.fails("time", NoSuchElementException.class, () -> log.time(line));
    Check.fails("about", NoSuchElementException.class, () -> log.about(line, -2));
    Check.fails("about", NoSuchElementException.class, () -> log.about(line, 0));
    Check.fails("length", NoSuchElementException.class, () -> log.length(line));
    Check.fails("letter", NoSuchElementException.class, () -> log.letter(line, 0));
  }

  private static void noLinesAtAll() {
    noSuchLine(new Counted(), 0);
    noSuchLine(new Counted(), -1);
    Counted log = Check.oneLine("");
    log.rotate();
    log.open();
    noSuchLine(log, 0);
    Counted unread = new Counted();
    unread.site();
    unread.log(0, 0, 0);
    unread.flush(0);
    noSuchLine(unread, 0);
  }

  private static void lengths() {
    Check.sentence("How many bytes a line's text has. NoSuchElementException.");
    for (int size = 0; size <= 80; size++) {
      Check.due("a format of " + size, Check.oneLine("x".repeat(size)).length(0), size);
    }
    for (int size = 0; size <= 16; size++) {
      Check.due("a text of " + size, Check.oneLine("{t}", "y".repeat(size)).length(0), size);
    }
    Check.due("-5", Check.oneLine("{d}", -5).length(0), 2);
    Check.due("-0.000005", Check.oneLine("{f6}", -5).length(0), 9);
    Counted log = Check.oneLine("{e0}", 31);
    for (int size = 1; size <= 12; size++) {
      Check.name(log, 0, 31, "y".repeat(size));
      Check.due("a name of " + size, log.length(0), size);
    }
  }

  private static void letters() {
    Check.sentence("Byte i of a line's text. NoSuchElementException; IndexOutOfBoundsException.");
    Counted log = Check.oneLine("a{d}z", 5);
    Check.due("the first", log.letter(0, 0), 'a');
    Check.due("the last", log.letter(0, 2), 'z');
    int[] wrong = {-1, 3, 4, LEAST, GREATEST};
    for (int place : wrong) {
      Check.fails("letter " + place, IndexOutOfBoundsException.class, () -> log.letter(0, place));
    }
    Counted empty = Check.oneLine("");
    Check.fails("no letter", IndexOutOfBoundsException.class, () -> empty.letter(0, 0));
    Counted high = Check.oneLine("{t}", "\u00ff");
    Check.due("no sign", high.letter(0, 0), 255);
    Counted named = Check.oneLine("{e0}", 1);
    Check.due("a number", named.letter(0, 0), '1');
    Check.fails("of one byte", IndexOutOfBoundsException.class, () -> named.letter(0, 1));
    Check.name(named, 0, 1, "ab");
    Check.due("as tables are now", named.letter(0, 1), 'b');
    Check.fails("of two", IndexOutOfBoundsException.class, () -> named.letter(0, 2));
  }
}
