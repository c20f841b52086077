import java.util.NoSuchElementException;

/** Promise 5 (arg) and promise 6 (text). */
public final class ArgumentTest {
  private static final String SIX_TEXTS = "{t}{t}{t}{t}{t}{t}";

  public static void main(String[] args) {
    countsOfNumbers();
    countsOfTexts();
    seventh();
    textSizes();
    anyBytes();
    takenByLog();
    takenByARefusedLog();
    leftByOthers();
    Check.end();
  }

  private static void countsOfNumbers() {
    Check.sentence("A number comes behind the arguments: how many they are. UnsupportedOperationException when there are six.");
    Counted log = new Counted();
    int[] numbers = {0, -1, 1, Integer.MIN_VALUE, Integer.MAX_VALUE, 7};
    for (int k = 0; k < 6; k++) {
      Check.due("arg", log.arg(numbers[k]), k + 1);
    }
    Check.fails("a seventh", UnsupportedOperationException.class, () -> log.arg(0));
    Check.fails("a seventh still", UnsupportedOperationException.class, () -> log.arg(Integer.MIN_VALUE));
    Check.site(log, "{d}{d}{d}{d}{d}{d}");
    Check.due("the six are there", log.log(0, 0, 0), 2 + 1 + 1 + 1 + 5 + 5 + 1);
    log.flush(0);
    log.open();
    for (int k = 0; k < 6; k++) {
      Check.due("in their order", log.about(0, k), numbers[k]);
    }
  }

  private static void countsOfTexts() {
    Check.sentence("The text is taken as an argument, behind the others: how many they are.");
    Counted log = new Counted();
    Check.site(log, SIX_TEXTS);
    for (int k = 0; k < 6; k++) {
      Check.due("text", Check.text(log, "abcdef".substring(0, k)), k + 1);
    }
    Check.refuses("a seventh", UnsupportedOperationException.class, log, x -> Check.text(x, "x"));
    Check.due("the six are there", log.log(0, 0, 0), 2 + 6 + 15);
    log.flush(0);
    log.open();
    for (int k = 0; k < 6; k++) {
      Check.due("in their order", log.about(0, k), k);
    }
  }

  private static void seventh() {
    Check.sentence("THE ARGUMENTS are a row of at most six numbers and texts (at most 16 bytes each, any); log() takes it.");
    Counted log = new Counted();
    Check.give(log, 1, "a", 2, "", 3);
    Check.due("the sixth", Check.text(log, "b"), 6);
    Check.fails("a seventh number", UnsupportedOperationException.class, () -> log.arg(7));
    Check.refuses("a seventh text", UnsupportedOperationException.class, log, x -> Check.text(x, "c"));
    Check.fails("a seventh, empty text", UnsupportedOperationException.class, log::text);
    Check.site(log, "{d}{t}{d}{t}{d}{t}");
    Check.due("the six are still there", log.log(0, 0, 0), 10);
    Check.due("and gone now", log.arg(0), 1);
  }

  private static void textSizes() {
    Check.sentence("IllegalArgumentException when it has more than 16 bytes; UnsupportedOperationException when there are six.");
    for (int size = 0; size <= 16; size++) {
      Counted log = Check.oneLine("{t}", "y".repeat(size));
      Check.due("size", log.about(0, 0), size);
      Check.due("text", Check.line(log, 0), "y".repeat(size));
    }
    int[] wrong = {17, 18, 24, 80, 200};
    for (int size : wrong) {
      Counted log = new Counted();
      Check.refuses("of " + size, IllegalArgumentException.class, log, x -> Check.text(x, "y".repeat(size)));
      Check.due("it is no argument", log.arg(0), 1);
    }
  }

  private static void anyBytes() {
    for (int from = 0; from < 256; from += 16) {
      StringBuilder text = new StringBuilder();
      for (int k = 0; k < 16; k++) {
        text.append((char) (from + k));
      }
      Check.prints(text.toString(), "{t}", text.toString());
    }
  }

  private static void takenByLog() {
    Check.sentence("An event of a writer, with the arguments, which are empty then:");
    Counted log = new Counted();
    Check.site(log, "{d}{t}");
    Check.log(log, 0, 0, 0, 1, "a");
    Check.due("they were taken", log.arg(0), 1);
    Check.text(log, "b");
    Check.due("a new row", log.log(0, 0, 0), 5 + 5);
  }

  private static void takenByARefusedLog() {
    Check.sentence("A call that throws changes nothing (but for the text and the arguments);");
    Counted log = new Counted();
    Check.site(log, "{d}");
    log.arg(1);
    Check.fails("no writer", NoSuchElementException.class, () -> log.log(4, 0, 0));
    Check.due("taken", log.arg(2), 1);
    Check.fails("no site", NoSuchElementException.class, () -> log.log(0, 1, 0));
    Check.due("taken", log.arg(2), 1);
    Check.fails("a time below 0", IllegalArgumentException.class, () -> log.log(0, 0, -1));
    Check.due("taken", log.arg(2), 1);
    log.arg(3);
    Check.fails("too many", IllegalArgumentException.class, () -> log.log(0, 0, 0));
    Check.due("taken", log.arg(2), 1);
    log.crash(0);
    Check.fails("cut", IllegalStateException.class, () -> log.log(0, 0, 0));
    Check.due("taken", log.arg(2), 1);
    Counted full = fullFile();
    Check.give(full, "a", "b", "c", "d", "e", "f");
    Check.fails("no room", UnsupportedOperationException.class, () -> full.log(1, 0, 0));
    Check.due("taken", full.arg(2), 1);
  }

  /** The file has 24 blocks, and writer 1's own is too full for an event of six texts. */
  private static Counted fullFile() {
    Counted log = new Counted();
    Check.site(log, SIX_TEXTS);
    log.site();
    String text = "y".repeat(16);
    Check.log(log, 1, 0, 0, text, text, text, text, text, text);
    Check.log(log, 1, 0, 0, text, text, text, text, text, text);
    for (int k = 0; k < 14; k++) {
      log.log(1, 1, 0);
    }
    for (int k = 0; k < 24; k++) {
      log.log(0, 1, 0);
      log.flush(0);
    }
    return log;
  }

  private static void leftByOthers() {
    Counted log = new Counted();
    Check.site(log, "{d}{t}");
    Check.log(log, 0, 0, 0, 1, "a");
    Check.give(log, 5, "left");
    log.flush(0);
    log.open();
    Check.line(log, 0);
    Check.name(log, 0, 0, "name");
    Check.search(log, "x");
    log.count();
    log.clear();
    log.damage(0, 0);
    log.crash(0);
    Check.refuses("too long", IllegalArgumentException.class, log, x -> Check.text(x, "y".repeat(17)));
    log.rotate();
    Check.due("both are there", log.log(0, 0, 0), 2 + 1 + 5);
    log.flush(0);
    log.open();
    Check.due("as they were", Check.line(log, 0), "5left");
  }
}
