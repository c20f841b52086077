import java.util.NoSuchElementException;

/** Of all promises: where several exceptions that a call names fit, it is the one that it names first. */
public final class FirstExceptionTest {
  private static final Class<NoSuchElementException> NO_SUCH = NoSuchElementException.class;
  private static final Class<IllegalArgumentException> ARGUMENT = IllegalArgumentException.class;
  private static final Class<IllegalStateException> STATE = IllegalStateException.class;
  private static final Class<UnsupportedOperationException> UNSUPPORTED = UnsupportedOperationException.class;
  private static final Class<IndexOutOfBoundsException> INDEX = IndexOutOfBoundsException.class;

  public static void main(String[] args) {
    Check.sentence("where several exceptions that a call names fit, it is the one that it names first.");
    site();
    name();
    text();
    logWithoutWriterOrSite();
    logOfACutFile();
    logOfAFullFile();
    flush();
    crash();
    about();
    letter();
    where();
    search();
    Check.end();
  }

  private static Counted made(Check.Steps steps) {
    Counted log = new Counted();
    steps.on(log);
    return log;
  }

  private static void is(Class<? extends RuntimeException> due, String what, Check.Steps before, Check.Steps call) {
    Check.refuses(what, due, made(before), call);
  }

  /** A fault is an answer, and no exception: it comes before one. */
  private static void site() {
    Counted log = new Counted();
    for (int k = 0; k < 40; k++) {
      Check.site(log, "site " + k);
    }
    Check.due("a fault, with 40 sites", Check.site(log, "{"), -2);
    Check.due("a format that there is, with 40 sites", Check.site(log, "site 7"), 7);
    Check.refuses("right, with 40 sites", UNSUPPORTED, log, x -> Check.site(x, "{{"));
  }

  private static void name() {
    String[] wrong = {"", "thirteen byte", "\n"};
    for (String text : wrong) {
      is(NO_SUCH, "no table and no such text", Twins::makeBusy, log -> Check.name(log, -1, 0, text));
      is(NO_SUCH, "no table and no such text", Twins::makeBusy, log -> Check.name(log, 8, 0, text));
      is(NO_SUCH, "no code and no such text", Twins::makeBusy, log -> Check.name(log, 0, -1, text));
      is(NO_SUCH, "no code and no such text", Twins::makeBusy, log -> Check.name(log, 0, 32, text));
      is(NO_SUCH, "nothing right", Twins::makeBusy, log -> Check.name(log, 8, 32, text));
      is(ARGUMENT, "no such text", Twins::makeBusy, log -> Check.name(log, 7, 31, text));
    }
    is(NO_SUCH, "no table", Twins::makeBusy, log -> Check.name(log, 8, 31, "right"));
  }

  private static void text() {
    Check.Steps six = log -> Check.give(log, 1, 2, 3, 4, 5, 6);
    Check.Steps five = log -> Check.give(log, 1, 2, 3, 4, 5);
    is(ARGUMENT, "17 bytes, and six", six, log -> Check.text(log, "y".repeat(17)));
    is(UNSUPPORTED, "16 bytes, and six", six, log -> Check.text(log, "y".repeat(16)));
    is(ARGUMENT, "17 bytes, and five", five, log -> Check.text(log, "y".repeat(17)));
    Check.due("16 bytes, and five", Check.text(made(five), "y".repeat(16)), 6);
  }

  private static void logWithoutWriterOrSite() {
    int site = Twins.NUMBER_AND_TEXT;
    Check.Steps[] states = {Twins::makeBusy, Twins::cut, Twins::fillFile};
    for (Check.Steps state : states) {
      is(NO_SUCH, "no writer", state, log -> Check.log(log, 4, site, 9, 1, "a"));
      is(NO_SUCH, "no writer and wrong arguments", state, log -> Check.log(log, -1, site, 9, "a"));
      is(NO_SUCH, "no writer and a wrong time", state, log -> Check.log(log, 4, site, -1, 1, "a"));
      is(NO_SUCH, "no site", state, log -> Check.log(log, 1, Twins.SITES, 9, 1, "a"));
      is(NO_SUCH, "no site and a wrong time", state, log -> Check.log(log, 1, -1, -1));
      is(NO_SUCH, "no site and a time before the last", state, log -> Check.log(log, 1, Twins.SITES, 0));
      is(NO_SUCH, "neither", state, log -> Check.log(log, 4, Twins.SITES, -1, 1, 2, 3));
      is(NO_SUCH, "no writer, of what would not fit in", state, log -> Twins.logSixTexts(log, 4, 9));
    }
  }

  private static void logOfACutFile() {
    int site = Twins.NUMBER_AND_TEXT;
    is(STATE, "cut", Twins::cut, log -> Check.log(log, 0, site, 9, 1, "a"));
    is(STATE, "cut, and wrong arguments", Twins::cut, log -> Check.log(log, 0, site, 9, "a"));
    is(STATE, "cut, and no arguments", Twins::cut, log -> Check.log(log, 0, site, 9));
    is(STATE, "cut, and time -1", Twins::cut, log -> Check.log(log, 0, site, -1, 1, "a"));
    is(STATE, "cut, and a time before the last", Twins::cut, log -> Check.log(log, 0, site, 0, 1, "a"));
    Check.Steps cutFull = log -> {
      Twins.fillFile(log);
      log.crash(256);
    };
    is(STATE, "cut, and 24 blocks", cutFull, log -> Twins.logSixTexts(log, 1, 9));
  }

  private static void logOfAFullFile() {
    is(UNSUPPORTED, "no room", Twins::fillFile, log -> Twins.logSixTexts(log, 1, 3));
    is(ARGUMENT, "no room, and time -1", Twins::fillFile, log -> Twins.logSixTexts(log, 1, -1));
    is(ARGUMENT, "no room, and a time before the last", Twins::fillFile, log -> Twins.logSixTexts(log, 1, 2));
    Object[] five = {"y".repeat(16), "y".repeat(16), "y".repeat(16), "y".repeat(16), "y".repeat(16)};
    is(ARGUMENT, "no room, and too few", Twins::fillFile, log -> Check.log(log, 1, Twins.SIX_TEXTS, 3, five));
    is(ARGUMENT, "no room, and a number", Twins::fillFile, log -> {
      Check.give(log, five);
      Check.log(log, 1, Twins.SIX_TEXTS, 3, 1);
    });
  }

  private static void flush() {
    int[] none = {-1, 4};
    for (int writer : none) {
      is(NO_SUCH, "no writer, and cut", Twins::cut, log -> log.flush(writer));
      is(NO_SUCH, "no writer, and 24 blocks", Twins::fillFile, log -> log.flush(writer));
    }
    is(STATE, "cut", Twins::cut, log -> log.flush(3));
    is(STATE, "cut, and 24 blocks", log -> {
      Twins.fillFile(log);
      log.crash(256);
    }, log -> log.flush(1));
    is(UNSUPPORTED, "no room", Twins::fillFile, log -> log.flush(1));
  }

  private static void crash() {
    is(ARGUMENT, "below 0, and cut", Twins::cut, log -> log.crash(-1));
    is(ARGUMENT, "far below 0, and cut", Twins::cut, log -> log.crash(Integer.MIN_VALUE));
    is(STATE, "cut", Twins::cut, log -> log.crash(0));
    is(ARGUMENT, "below 0", Twins::makeBusy, log -> log.crash(-1));
  }

  private static void about() {
    int[] whats = {-3, 6, Integer.MIN_VALUE, Integer.MAX_VALUE};
    for (int what : whats) {
      is(NO_SUCH, "no line, and another what", Twins::makeBusy, log -> log.about(5, what));
      is(NO_SUCH, "no line, and another what", Twins::makeBusy, log -> log.about(-1, what));
      is(NO_SUCH, "no lines, and another what", log -> log.site(), log -> log.about(0, what));
      is(INDEX, "another what", Twins::makeBusy, log -> log.about(0, what));
    }
    is(NO_SUCH, "no line", Twins::makeBusy, log -> log.about(5, 0));
    is(NO_SUCH, "no slot", Twins::makeBusy, log -> log.about(0, 5));
  }

  private static void letter() {
    int[] places = {-1, 200, Integer.MIN_VALUE, Integer.MAX_VALUE};
    for (int place : places) {
      is(NO_SUCH, "no line, and no letter", Twins::makeBusy, log -> log.letter(5, place));
      is(NO_SUCH, "no line, and no letter", Twins::makeBusy, log -> log.letter(-1, place));
      is(INDEX, "no letter", Twins::makeBusy, log -> log.letter(0, place));
    }
  }

  private static void fourTerms(Counted log) {
    for (int k = 0; k < 4; k++) {
      log.where(0, 0, 0);
    }
  }

  private static void where() {
    int[] kinds = {-1, 4, Integer.MIN_VALUE, Integer.MAX_VALUE};
    for (int kind : kinds) {
      is(ARGUMENT, "another kind, and four", FirstExceptionTest::fourTerms, log -> log.where(kind, 0, 0));
      is(ARGUMENT, "another kind", Twins::makeBusy, log -> log.where(kind, 0, 0));
    }
    is(UNSUPPORTED, "four", FirstExceptionTest::fourTerms, log -> log.where(3, 0, 0));
  }

  private static void search() {
    is(ARGUMENT, "an empty text, and four", FirstExceptionTest::fourTerms, log -> log.search());
    is(ARGUMENT, "25 bytes, and four", FirstExceptionTest::fourTerms, log -> Check.search(log, "y".repeat(25)));
    is(UNSUPPORTED, "24 bytes, and four", FirstExceptionTest::fourTerms, log -> Check.search(log, "y".repeat(24)));
    is(UNSUPPORTED, "one byte, and four", FirstExceptionTest::fourTerms, log -> Check.search(log, "y"));
  }
}
