import java.util.NoSuchElementException;

/** Promise 1 (a new object) and promise 2 (type), and the text. */
public final class NewObjectTest {
  private static final String EMPTIED = "THE TEXT is a row of bytes that were typed; a call that takes it empties it, whatever it answers or throws.";

  public static void main(String[] args) {
    noSites();
    tablesNameNothing();
    textArgumentsAndFileAreEmpty();
    noLinesAndNoTerms();
    lowestBytesFirst();
    wrongSizes();
    fullText();
    refusedTypeChangesNothing();
    emptiedBySite();
    emptiedByName();
    emptiedByText();
    emptiedBySearch();
    leftByOthers();
    fiveHundredAndTwelveCalls();
    Check.end();
  }

  private static void noSites() {
    Check.sentence("No sites; tables name nothing; the text, the arguments, the file are empty; no lines; no terms.");
    Counted log = new Counted();
    Check.fails("no site 0", NoSuchElementException.class, () -> log.log(0, 0, 0));
    Check.due("the first is 0", Check.site(log, "first"), 0);
    Check.due("now there is one", log.log(0, 0, 0), 2);
    Check.fails("and no other", NoSuchElementException.class, () -> log.log(0, 1, 0));
  }

  private static void tablesNameNothing() {
    for (int table = 0; table < 8; table++) {
      Counted log = new Counted();
      Check.site(log, "{e" + table + "}");
      for (int code = 0; code < 32; code++) {
        Check.log(log, 0, 0, code, code);
      }
      log.flush(0);
      Check.due("lines", log.open(), 32);
      for (int code = 0; code < 32; code++) {
        Check.due("table " + table, Check.line(log, code), Integer.toString(code));
      }
    }
  }

  private static void textArgumentsAndFileAreEmpty() {
    Counted log = new Counted();
    Check.due("the text is empty, and a format", log.site(), 0);
    Check.due("the arguments are empty", log.log(0, 0, 0), 2);
    Check.due("the first argument", new Counted().arg(0), 1);
    Check.due("size", new Counted().size(), 0);
    Check.fails("no byte", IndexOutOfBoundsException.class, () -> new Counted().byteOf(0));
    Check.due("blocks", new Counted().flush(0), 0);
    Check.due("nothing to cut", new Counted().crash(Integer.MAX_VALUE), 0);
    Check.due("open", new Counted().open(), 0);
  }

  private static void noLinesAndNoTerms() {
    Counted log = new Counted();
    Check.fails("no line", NoSuchElementException.class, () -> log.time(0));
    Check.due("count", log.count(), 0);
    Check.due("find", log.find(0), -1);
    Check.due("distinct", log.distinct(0), 0);
    Check.due("broken", log.broken(), 0);
    Check.due("terms", log.clear(), 0);
    Check.due("the first term", log.where(0, 0, 0), 1);
  }

  private static void lowestBytesFirst() {
    Check.sentence("The n lowest bytes of w come behind the text, the lowest first.");
    for (int n = 1; n <= 8; n++) {
      Counted log = new Counted();
      Check.site(log, "{t}");
      Check.holds("n " + n, log.type(0xFF80_7F41_0042_4344L, n));
      Check.holds("behind it", log.type(0xFFFF_FFFF_FFFF_FF61L, 1));
      log.text();
      Check.due("packed", log.log(0, 0, 0), 4 + n);
      log.flush(0);
      String[] bytes = {"68", "67", "66", "0", "65", "127", "128", "255"};
      String due = n + 1 + " " + String.join(" ", java.util.Arrays.copyOf(bytes, n)) + " 97";
      Check.due("the lowest first", Check.bytes(log, 16, n + 2), due);
    }
  }

  private static void wrongSizes() {
    Check.sentence("False, changing nothing, when n is not 1 .. 8, or there would be more than 200.");
    int[] wrong = {0, -1, 9, 10, 64, -8, Integer.MIN_VALUE, Integer.MAX_VALUE};
    for (int n : wrong) {
      Check.holds("n " + n + " is refused", !new Counted().type(65, n));
    }
    Check.holds("n 1", new Counted().type(65, 1));
    Check.holds("n 8", new Counted().type(65, 8));
  }

  private static Counted typed(int size) {
    Counted log = new Counted();
    Check.type(log, "x".repeat(size));
    return log;
  }

  private static void fullText() {
    for (int n = 1; n <= 8; n++) {
      Check.holds("to 199 by " + n, typed(199 - n).type(0, n));
      Check.holds("to 200 by " + n, typed(200 - n).type(0, n));
      Check.holds("not to 201 by " + n, !typed(201 - n).type(0, n));
      Check.holds("nor behind 200 by " + n, !typed(200).type(0, n));
    }
    Check.holds("a wrong n with a full text", !typed(200).type(0, 0));
    Check.due("200 bytes can be taken", typed(200).site(), -81);
  }

  private static void refusedTypeChangesNothing() {
    Counted log = new Counted();
    Check.type(log, "ab");
    int[] wrong = {0, -1, 9, Integer.MIN_VALUE, Integer.MAX_VALUE};
    for (int n : wrong) {
      log.type(0x7B7B7B7B7B7B7B7BL, n);
    }
    Check.due("the text is as it was", log.site(), 0);
    Check.due("that of these two bytes", Check.site(log, "ab"), 0);
    Counted full = typed(199);
    Check.holds("two more are refused, both", !full.type(0, 2));
    Check.holds("one more fits in still", full.type(0, 1));
    Check.holds("and no other", !full.type(0, 1));
  }

  /** An object of which the empty format is site 0. */
  private static Counted withEmptySite() {
    Counted log = new Counted();
    log.site();
    return log;
  }

  private static void isEmpty(String what, Counted log) {
    Check.due(what + ": the text is empty", log.site(), 0);
  }

  private static void emptiedBySite() {
    Check.sentence(EMPTIED);
    Counted log = withEmptySite();
    Check.due("a new one", Check.site(log, "a"), 1);
    isEmpty("a new site", log);
    Check.due("the same again", Check.site(log, "a"), 1);
    isEmpty("a site that there is", log);
    Check.due("a fault", Check.site(log, "}"), -2);
    isEmpty("a fault", log);
    Check.due("a long one", Check.site(log, "x".repeat(200)), -81);
    isEmpty("a fault behind which there is more", log);
    for (int k = 2; k < 40; k++) {
      Check.site(log, "site " + k);
    }
    Check.refuses("the 41st", UnsupportedOperationException.class, log, x -> Check.site(x, "one more"));
    isEmpty("the 41st", log);
  }

  private static void emptiedByName() {
    Counted log = withEmptySite();
    Check.name(log, 0, 0, "name");
    isEmpty("a name", log);
    Check.refuses("no table", NoSuchElementException.class, log, x -> Check.name(x, 8, 0, "name"));
    isEmpty("no table", log);
    Check.refuses("no code", NoSuchElementException.class, log, x -> Check.name(x, 0, -1, "name"));
    isEmpty("no code", log);
    Check.refuses("too long", IllegalArgumentException.class, log, x -> Check.name(x, 0, 0, "thirteen byte"));
    isEmpty("too long", log);
    Check.refuses("no such byte", IllegalArgumentException.class, log, x -> Check.name(x, 0, 0, "\n"));
    isEmpty("no such byte", log);
  }

  private static void emptiedByText() {
    Counted log = withEmptySite();
    Check.text(log, "text");
    isEmpty("an argument", log);
    Check.refuses("too long", IllegalArgumentException.class, log, x -> Check.text(x, "y".repeat(17)));
    isEmpty("too long", log);
    Check.give(log, 2, 3, 4, 5, 6);
    Check.refuses("a seventh", UnsupportedOperationException.class, log, x -> Check.text(x, "y"));
    isEmpty("a seventh", log);
    Check.refuses("a seventh, too long", IllegalArgumentException.class, log, x -> Check.text(x, "y".repeat(17)));
    isEmpty("a seventh, too long", log);
  }

  private static void emptiedBySearch() {
    Counted log = withEmptySite();
    Check.search(log, "a");
    isEmpty("a term", log);
    Check.refuses("too long", IllegalArgumentException.class, log, x -> Check.search(x, "y".repeat(25)));
    isEmpty("too long", log);
    for (int k = 0; k < 3; k++) {
      log.where(0, 0, 0);
    }
    Check.refuses("a fifth", UnsupportedOperationException.class, log, x -> Check.search(x, "y"));
    isEmpty("a fifth", log);
    Check.refuses("a fifth, too long", IllegalArgumentException.class, log, x -> Check.search(x, "y".repeat(25)));
    isEmpty("a fifth, too long", log);
  }

  private static void fiveHundredAndTwelveCalls() {
    Check.sentence("An object is used for at most 512 calls after it has been made;");
    Counted log = withEmptySite();
    for (int calls = 1; calls < 505; calls++) {
      Check.due("log", log.log(0, 0, calls), 2 + 2 * ((calls - 1) % 119));
    }
    Check.due("504 events in four blocks and a fifth", log.flush(0), 5);
    Check.due("lines", log.open(), 504);
    Check.due("broken", log.broken(), 0);
    Check.due("the last", log.time(503), 504);
    Check.due("count", log.count(), 504);
    Check.due("calls", log.calls(), 510);
    Check.due("the 511th", log.crash(0), 5 * 256);
    Check.due("the 512th", log.find(503), 503);
  }

  /** Calls that do not take the text leave it. */
  private static void leftByOthers() {
    Counted log = withEmptySite();
    Check.type(log, "left");
    log.arg(1);
    Check.fails("arguments", IllegalArgumentException.class, () -> log.log(0, 0, 0));
    log.log(0, 0, 0);
    log.flush(0);
    log.size();
    log.byteOf(0);
    log.damage(20, 1);
    log.open();
    log.broken();
    log.where(0, 0, 0);
    log.find(0);
    log.count();
    log.distinct(0);
    log.clear();
    log.crash(0);
    log.rotate();
    Check.due("a new site", log.site(), 1);
    Check.due("of the text that was left", Check.site(log, "left"), 1);
  }
}
