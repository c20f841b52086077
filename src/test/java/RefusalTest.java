import java.util.NoSuchElementException;

/** Of all promises: a call that throws changes nothing but the text and the arguments, and one that only asks nothing at all. */
public final class RefusalTest {
  private static final Class<NoSuchElementException> NO_SUCH = NoSuchElementException.class;
  private static final Class<IllegalArgumentException> ARGUMENT = IllegalArgumentException.class;
  private static final Class<IllegalStateException> STATE = IllegalStateException.class;
  private static final Class<UnsupportedOperationException> UNSUPPORTED = UnsupportedOperationException.class;
  private static final Class<IndexOutOfBoundsException> INDEX = IndexOutOfBoundsException.class;
  private static final int[] OUTSIDE = {-1, 99, Integer.MIN_VALUE, Integer.MAX_VALUE};

  public static void main(String[] args) {
    type();
    Check.sentence("A call that throws changes nothing (but for the text and the arguments);");
    site();
    name();
    arguments();
    logOfNone();
    logOfACutFile();
    logOfWrongArguments();
    logOfAFullFile();
    flush();
    crash();
    bytes();
    lines();
    terms();
    distinct();
    questions();
    Check.end();
  }

  private static void type() {
    Check.sentence("False, changing nothing, when n is not 1 .. 8, or there would be more than 200.");
    int[] wrong = {0, -1, 9, Integer.MIN_VALUE, Integer.MAX_VALUE};
    for (int n : wrong) {
      Twins.unchanged("type of " + n, Twins::busyWithBoth, log -> log.type(-1, n));
    }
    for (int n = 1; n <= 8; n++) {
      int size = 201 - n;
      int more = n;
      Twins.unchanged("the 201st of " + n, log -> fillText(log, size), log -> Check.holds("full", !log.type(-1, more)));
    }
  }

  private static void fillText(Counted log, int size) {
    Twins.busyWithArguments(log);
    Check.type(log, "z".repeat(size));
  }

  private static void site() {
    String[] faults = {"}", "{", "a\n", "{q}", "x".repeat(81), "{d}{d}{d}{d}{d}{d}{d}"};
    for (String fault : faults) {
      Twins.unchanged("site of " + fault, Twins::busyWithArguments, log -> Check.holds("a fault", Check.site(log, fault) < 0));
    }
    Twins.refused("the 41st site", UNSUPPORTED, RefusalTest::fillSites, log -> Check.site(log, "one more"));
  }

  private static void fillSites(Counted log) {
    Twins.busyWithArguments(log);
    for (int k = Twins.SITES; k < 40; k++) {
      Check.site(log, "site " + k);
    }
  }

  private static void name() {
    for (int outside : OUTSIDE) {
      Twins.refused("table " + outside, NO_SUCH, Twins::busyWithArguments, log -> Check.name(log, outside, 30, "other"));
      Twins.refused("code " + outside, NO_SUCH, Twins::busyWithArguments, log -> Check.name(log, 7, outside, "other"));
    }
    Twins.refused("table 8", NO_SUCH, Twins::busyWithArguments, log -> Check.name(log, 8, 30, "other"));
    Twins.refused("code 32", NO_SUCH, Twins::busyWithArguments, log -> Check.name(log, 7, 32, "other"));
    String[] wrong = {"", "thirteen byte", "\n", "other\u007f"};
    for (String text : wrong) {
      Twins.refused("name '" + text + "'", ARGUMENT, Twins::busyWithArguments, log -> Check.name(log, 7, 30, text));
    }
  }

  private static void sixArguments(Counted log) {
    Twins.makeBusy(log);
    Check.give(log, "a", "b", "c", "d", "e", "f");
  }

  private static void sixArgumentsAndText(Counted log) {
    sixArguments(log);
    Check.type(log, "left");
  }

  private static void arguments() {
    Twins.refused("a seventh number", UNSUPPORTED, RefusalTest::sixArgumentsAndText, log -> log.arg(7));
    Twins.refused("a seventh text", UNSUPPORTED, RefusalTest::sixArguments, log -> Check.text(log, "seventh"));
    Twins.refused("a text of 17", ARGUMENT, Twins::busyWithArguments, log -> Check.text(log, "y".repeat(17)));
    Twins.refused("a seventh of 17", ARGUMENT, RefusalTest::sixArguments, log -> Check.text(log, "y".repeat(17)));
    Counted log = new Counted();
    sixArguments(log);
    Check.refuses("a seventh", UNSUPPORTED, log, x -> x.arg(7));
    Check.refuses("a seventh", UNSUPPORTED, log, x -> Check.text(x, "g"));
    Check.due("the six are as they were", log.log(3, Twins.SIX_TEXTS, 0), 14);
    log.flush(3);
    Check.due("packed", Check.bytes(log, log.size() - 256 + 14, 14), "3 0 1 97 1 98 1 99 1 100 1 101 1 102");
  }

  private static void refusedLog(String what, Class<? extends RuntimeException> due, int writer, int site, long time) {
    Twins.refused("log of " + what, due, Twins::busyWithText, log -> {
      log.arg(5);
      log.log(writer, site, time);
    });
  }

  private static void logOfNone() {
    for (int outside : OUTSIDE) {
      refusedLog("writer " + outside, NO_SUCH, outside, Twins.EMPTY, 9);
      refusedLog("site " + outside, NO_SUCH, 0, outside, 9);
    }
    refusedLog("writer 4", NO_SUCH, 4, Twins.EMPTY, 9);
    refusedLog("site 4", NO_SUCH, 0, Twins.SITES, 9);
  }

  private static void logOfACutFile() {
    Twins.refused("log", STATE, Twins::cut, log -> log.log(0, Twins.EMPTY, 9));
    Twins.refused("log with arguments", STATE, Twins::cut, log -> Check.log(log, 0, Twins.NUMBER_AND_TEXT, 9, 1, "a"));
  }

  private static void logOfWrongArguments() {
    int site = Twins.NUMBER_AND_TEXT;
    Twins.refused("too few", ARGUMENT, Twins::makeBusy, log -> Check.log(log, 0, site, 9, 6));
    Twins.refused("none", ARGUMENT, Twins::busyWithText, log -> log.log(0, site, 9));
    Twins.refused("too many", ARGUMENT, Twins::makeBusy, log -> Check.log(log, 0, site, 9, 6, "a", 7));
    Twins.refused("two numbers", ARGUMENT, Twins::makeBusy, log -> Check.log(log, 0, site, 9, 6, 7));
    Twins.refused("two texts", ARGUMENT, Twins::makeBusy, log -> Check.log(log, 0, site, 9, "a", "b"));
    Twins.refused("the wrong way round", ARGUMENT, Twins::makeBusy, log -> Check.log(log, 0, site, 9, "a", 6));
    for (int writer = 0; writer < 4; writer++) {
      int by = writer;
      Twins.refused("time -1", ARGUMENT, Twins::makeBusy, log -> Check.log(log, by, site, -1, 6, "a"));
      Twins.refused("the least time", ARGUMENT, Twins::makeBusy, log -> Check.log(log, by, site, Long.MIN_VALUE, 6, "a"));
    }
    Twins.refused("before the last in the block", ARGUMENT, Twins::makeBusy, log -> Check.log(log, 0, site, 3, 6, "a"));
    Twins.refused("before the last, alone", ARGUMENT, Twins::makeBusy, log -> Check.log(log, 2, site, 5, 6, "a"));
    Twins.refused("before the last, which does not fit in", ARGUMENT, RefusalTest::fillBlock, log -> Twins.logSixTexts(log, 1, 4));
    Twins.refused("wrong ones, which do not fit in", ARGUMENT, RefusalTest::fillBlock, log -> Check.log(log, 1, Twins.SIX_TEXTS, 9, "a"));
  }

  /** Writer 1 has no room in its block for an event of six texts, and the file has room for the block. */
  private static void fillBlock(Counted log) {
    Twins.makeBusy(log);
    Twins.logSixTexts(log, 1, 5);
  }

  private static void logOfAFullFile() {
    Twins.refused("log of what does not fit in", UNSUPPORTED, Twins::fillFile, log -> Twins.logSixTexts(log, 1, 3));
    Twins.refused("log at a later time", UNSUPPORTED, Twins::fillFile, log -> Twins.logSixTexts(log, 1, 8));
    Twins.refused("log of a number that would be a last one", UNSUPPORTED, RefusalTest::fillFileAndBlock,
        log -> Check.log(log, 1, Twins.NUMBER_AND_TEXT, 3, 1000, "y".repeat(16)));
  }

  private static void fillFileAndBlock(Counted log) {
    Twins.fillFile(log);
    Check.due("ten bytes are left", Check.log(log, 1, Twins.NUMBER_AND_TEXT, 3, 45, "y".repeat(16)), 228);
  }

  private static void flush() {
    for (int outside : OUTSIDE) {
      Twins.refused("flush of " + outside, NO_SUCH, Twins::busyWithBoth, log -> log.flush(outside));
    }
    Twins.refused("flush of 4", NO_SUCH, Twins::busyWithBoth, log -> log.flush(4));
    for (int writer = 0; writer < 4; writer++) {
      int by = writer;
      Twins.refused("flush of a cut file", STATE, Twins::cutWithBoth, log -> log.flush(by));
    }
    Twins.refused("flush of a full file", UNSUPPORTED, Twins::fillFileAndType, log -> log.flush(1));
  }

  private static void crash() {
    int[] below = {-1, -256, Integer.MIN_VALUE};
    for (int n : below) {
      Twins.refused("crash(" + n + ")", ARGUMENT, Twins::busyWithBoth, log -> log.crash(n));
      Twins.refused("crash(" + n + ") of a cut file", ARGUMENT, Twins::cutWithBoth, log -> log.crash(n));
    }
    Twins.refused("crash of a cut file", STATE, Twins::cutWithBoth, log -> log.crash(0));
    Twins.refused("crash of a cut file", STATE, Twins::cutWithBoth, log -> log.crash(Integer.MAX_VALUE));
  }

  private static void bytes() {
    int[] outside = {-1, 512, Integer.MIN_VALUE, Integer.MAX_VALUE};
    for (int place : outside) {
      Twins.refused("byteOf(" + place + ")", INDEX, Twins::busyWithBoth, log -> log.byteOf(place));
      Twins.refused("damage(" + place + ")", INDEX, Twins::busyWithBoth, log -> log.damage(place, 5));
    }
    Twins.refused("byteOf(257) of a cut file", INDEX, Twins::cutWithBoth, log -> log.byteOf(257));
    Twins.refused("damage(257) of a cut file", INDEX, Twins::cutWithBoth, log -> log.damage(257, 5));
  }

  private static void lines() {
    int[] none = {-1, 5, Integer.MIN_VALUE, Integer.MAX_VALUE};
    for (int line : none) {
      Twins.refused("time(" + line + ")", NO_SUCH, Twins::busyWithBoth, log -> log.time(line));
      Twins.refused("about(" + line + ")", NO_SUCH, Twins::busyWithBoth, log -> log.about(line, -2));
      Twins.refused("length(" + line + ")", NO_SUCH, Twins::busyWithBoth, log -> log.length(line));
      Twins.refused("letter(" + line + ")", NO_SUCH, Twins::busyWithBoth, log -> log.letter(line, 0));
    }
    Twins.refused("about without a slot", NO_SUCH, Twins::busyWithBoth, log -> log.about(0, 2));
    Twins.refused("about(0, -3)", INDEX, Twins::busyWithBoth, log -> log.about(0, -3));
    Twins.refused("about(0, 6)", INDEX, Twins::busyWithBoth, log -> log.about(0, 6));
    Twins.refused("letter(0, -1)", INDEX, Twins::busyWithBoth, log -> log.letter(0, -1));
    Twins.refused("letter(0, 3)", INDEX, Twins::busyWithBoth, log -> log.letter(0, 3));
  }

  private static void fourTerms(Counted log) {
    Twins.busyWithArguments(log);
    Check.search(log, "3");
    log.where(2, 0, 0);
    log.where(3, 0, 99);
  }

  private static void fourTermsAndText(Counted log) {
    fourTerms(log);
    Check.type(log, "left");
  }

  private static void terms() {
    int[] kinds = {-1, 4, Integer.MIN_VALUE, Integer.MAX_VALUE};
    for (int kind : kinds) {
      Twins.refused("where(" + kind + ")", ARGUMENT, Twins::busyWithBoth, log -> log.where(kind, 0, 0));
      Twins.refused("a fifth where(" + kind + ")", ARGUMENT, RefusalTest::fourTermsAndText, log -> log.where(kind, 0, 0));
    }
    for (int kind = 0; kind < 4; kind++) {
      int fifth = kind;
      Twins.refused("a fifth where", UNSUPPORTED, RefusalTest::fourTermsAndText, log -> log.where(fifth, 9, 9));
    }
    Twins.refused("search of nothing", ARGUMENT, Twins::busyWithArguments, log -> log.search());
    Twins.refused("search of 25", ARGUMENT, Twins::busyWithArguments, log -> Check.search(log, "y".repeat(25)));
    Twins.refused("a fifth search", UNSUPPORTED, RefusalTest::fourTerms, log -> Check.search(log, "yyy"));
    Twins.refused("a fifth search of 25", ARGUMENT, RefusalTest::fourTerms, log -> Check.search(log, "y".repeat(25)));
  }

  private static void distinct() {
    for (int outside : OUTSIDE) {
      Twins.refused("distinct(" + outside + ")", INDEX, Twins::busyWithBoth, log -> log.distinct(outside));
    }
    Twins.refused("distinct(6)", INDEX, Twins::busyWithBoth, log -> log.distinct(6));
  }

  private static void questions() {
    Check.sentence("Nothing is promised beyond the answers and state changes described above,");
    Twins.unchanged("questions", Twins::busyWithBoth, log -> {
      log.size();
      log.byteOf(0);
      log.broken();
      log.time(0);
      log.about(0, 0);
      log.length(1);
      log.letter(1, 0);
      log.find(0);
      log.count();
      log.distinct(0);
    });
    Twins.unchanged("a flush of nothing, when all is durable", log -> {
      Twins.busyWithBoth(log);
      log.flush(1);
    }, log -> log.flush(3));
    Twins.unchanged("clear of nothing", log -> {
      Twins.busyWithBoth(log);
      log.clear();
    }, log -> log.clear());
    Twins.unchanged("a site that there is", Twins::busyWithArguments, log -> Check.site(log, "{d}{t}"));
    Twins.unchanged("a byte that it is already", Twins::busyWithBoth, log -> log.damage(0, 90));
  }
}
