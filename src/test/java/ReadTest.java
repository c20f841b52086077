/** Promise 14 (open) and promise 15 (broken): what is whole, what is not, and the order of lines. */
public final class ReadTest {
  private static final String BROKEN =
      "and so is a block whose first byte is not 90, whose writer is not 0 .. 3, whose time is below 0, whose n is above 238, whose sum is another one,";
  private static final String EVENTS = "or whose n bytes are not events, one behind the other, of sites that there are,";
  private static final String TIMES =
      "with times (that of the block, or of the event before, and the VAR) that are no less than 0 (as longs),";
  private static final String NUMBERS = "numbers packed by 0, 4 .. 124 but 64, or 255,";
  private static final String TEXTS = "texts of at most 16 bytes,";
  private static final String VARS = "and VARs of at most nine bytes (the last of them not 0 but for a VAR of one byte).";
  private static final String ORDER = "by time, then by writer, then by where they are in the file.";
  private static final Block WHOLE = new Block(0, 0, 3, 2, 0);

  public static void main(String[] args) {
    leftAtTheEnd();
    firstByte();
    writer();
    time();
    size();
    sizeThatReachesIntoTheSum();
    sum();
    halfEvents();
    sites();
    sitesToldLater();
    times();
    numbers();
    texts();
    vars();
    brokenEventsAreLeftOut();
    whatIsNotLookedAt();
    orderByTime();
    orderByWriter();
    orderByPlace();
    linesUntilTheNextOpen();
    brokenAsItWasRead();
    allBroken();
    mostLines();
    readAgainAndAgain();
    Check.end();
  }

  /** Sites 0 "{d}", 1 "{t}" and 2 "", a block of writer 0 to spoil, and one of writer 1 behind it, at time 4. */
  private static Counted twoBlocks() {
    Counted log = new Counted();
    Check.site(log, "{d}");
    Check.site(log, "{t}");
    Check.site(log, "");
    log.log(0, 2, 3);
    log.flush(0);
    log.log(1, 2, 4);
    log.flush(1);
    return log;
  }

  private static void read(String what, Counted log, int lines, int broken) {
    Check.due(what + ": lines", log.open(), lines);
    Check.due(what + ": broken", log.broken(), broken);
  }

  private static Counted readInstead(String what, Block block, int linesOfIt, int broken) {
    Counted log = twoBlocks();
    WHOLE.becomes(block, log, 0);
    read(what, log, 1 + linesOfIt, broken);
    return log;
  }

  private static Counted whole(String what, int lines, int... events) {
    return readInstead(what, new Block(0, 0, 3, events), lines, 0);
  }

  private static void broken(String what, int... events) {
    readInstead(what, new Block(0, 0, 3, events), 0, 1);
  }

  private static void leftAtTheEnd() {
    Check.sentence("READING the file: 256 bytes and 256 bytes; what is left at the end (less than 256) is BROKEN,");
    int[] left = {0, 1, 2, 128, 254, 255, 256, 257, 511, 512};
    for (int n : left) {
      Counted log = new Counted();
      log.site();
      for (int k = 0; k < 239; k++) {
        log.log(0, 0, k);
      }
      log.crash(n);
      read(n + " bytes", log, n / 256 * 119, n % 256 == 0 ? 0 : 1);
    }
    read("no file", new Counted(), 0, 0);
  }

  private static void firstByte() {
    Check.sentence(BROKEN);
    for (int b = 0; b < 256; b++) {
      readInstead("first byte " + b, WHOLE.with(0, b), b == 90 ? 1 : 0, b == 90 ? 0 : 1);
    }
  }

  private static void writer() {
    for (int b = 0; b < 256; b++) {
      Counted log = readInstead("writer " + b, WHOLE.with(1, b), b < 4 ? 1 : 0, b < 4 ? 0 : 1);
      Check.due("its line", log.about(0, -2), b < 4 ? b : 1);
    }
  }

  private static void time() {
    long[] right = {0, 1, Integer.MAX_VALUE, 1L << 31, 1L << 62, Long.MAX_VALUE};
    for (long time : right) {
      Counted log = readInstead("time " + time, new Block(0, 0, time, 2, 0), 1, 0);
      Check.due("its line", log.time(time < 4 ? 0 : 1), time);
    }
    long[] wrong = {-1, -2, Long.MIN_VALUE, Long.MIN_VALUE + 1, Integer.MIN_VALUE};
    for (long time : wrong) {
      readInstead("time " + time, new Block(0, 0, time, 2, 0), 0, 1);
      readInstead("time " + time + ", no events", new Block(0, 0, time), 0, 1);
    }
  }

  private static void size() {
    readInstead("n 0, no events", WHOLE.with(12, 0, 0), 0, 0);
    readInstead("n 2", WHOLE.with(12, 0, 2), 1, 0);
    readInstead("n 239", WHOLE.with(12, 0, 239), 0, 1);
    readInstead("n 255", WHOLE.with(12, 0, 255), 0, 1);
    readInstead("n 256", WHOLE.with(12, 1, 0), 0, 1);
    readInstead("n 258", WHOLE.with(12, 1, 2), 0, 1);
    readInstead("n 32768", WHOLE.with(12, 128, 0), 0, 1);
    readInstead("n 65535", WHOLE.with(12, 255, 255), 0, 1);
  }

  /** Pairs of zeros, and a text that goes on as far as n says: right events all, but for n. */
  private static void sizeThatReachesIntoTheSum() {
    for (int n = 237; n <= 242; n++) {
      Counted log = new Counted();
      log.site();
      Check.site(log, "{t}");
      log.log(0, 0, 0);
      log.flush(0);
      Block block = new Block(0, 0, 0, 0, 0);
      block.becomes(block.with(12, 0, n).with(248, 1, 0, n - 237), log, 0);
      boolean whole = n <= 238;
      read("n " + n, log, whole ? 118 : 0, whole ? 0 : 1);
    }
  }

  private static void sum() {
    for (int place = 0; place < 256; place++) {
      readInstead("byte " + place + ", one more", WHOLE.spoiled(place, WHOLE.at(place) + 1), 0, 1);
    }
    for (int place = 252; place < 256; place++) {
      for (int bit = 1; bit < 256; bit <<= 1) {
        readInstead("bit " + bit + " of " + place, WHOLE.spoiled(place, WHOLE.at(place) ^ bit), 0, 1);
      }
    }
    Counted log = twoBlocks();
    log.damage(100, 1);
    read("spoiled", log, 1, 1);
    log.damage(100, 0);
    read("mended", log, 2, 0);
    readInstead("another block with its own sum", new Block(3, 9, 1L << 60, 2, 0, 2, 0), 2, 0);
  }

  private static void halfEvents() {
    Check.sentence(EVENTS);
    whole("one", 1, 2, 0);
    whole("two", 2, 2, 0, 2, 0);
    whole("of several sites", 3, 0, 0, 65, 1, 0, 0, 2, 0);
    broken("half of one", 2);
    broken("one and a half", 2, 0, 2);
    broken("no number", 0, 0);
    broken("two, and no number", 2, 0, 2, 0, 0, 0);
    whole("119", 119, zerosAndTwos(238));
    broken("119 and a half", 2, 0, 0);
    broken("237 bytes", zerosAndTwos(237));
  }

  private static int[] zerosAndTwos(int count) {
    int[] events = new int[count];
    for (int k = 0; k < count; k += 2) {
      events[k] = 2;
    }
    return events;
  }

  private static void sites() {
    whole("site 0", 1, 0, 0, 0);
    whole("site 2, the last that there is", 1, 2, 0);
    broken("site 3, which there is not", 3, 0);
    broken("site 39", 39, 0);
    broken("site 40", 40, 0);
    broken("site 127", 127, 0);
    broken("site 128", 128, 1, 0);
    broken("a far site", 255, 255, 255, 255, 255, 255, 255, 255, 127, 0);
    broken("one that is 2 as an int", 130, 128, 128, 128, 16, 0);
    broken("a right one, then a wrong one", 2, 0, 3, 0);
  }

  private static void sitesToldLater() {
    Counted log = twoBlocks();
    WHOLE.becomes(new Block(0, 0, 3, 3, 0), log, 0);
    read("no such site", log, 1, 1);
    Check.site(log, "new");
    Check.due("not before the next open", log.broken(), 1);
    Check.due("not before the next open", log.count(), 1);
    read("now there is", log, 2, 0);
    Check.due("printed", Check.line(log, 0), "new");
    Counted last = new Counted();
    for (int k = 0; k < 40; k++) {
      Check.site(last, "site " + k);
    }
    last.log(0, 2, 3);
    last.flush(0);
    WHOLE.becomes(new Block(0, 0, 3, 39, 0), last, 0);
    read("site 39 of 40", last, 1, 0);
    new Block(0, 0, 3, 39, 0).becomes(new Block(0, 0, 3, 40, 0), last, 0);
    read("site 40 of 40", last, 0, 1);
  }

  private static void times() {
    Check.sentence(TIMES);
    Counted log = whole("the first's VAR counts", 2, 2, 5, 2, 7);
    Check.due("the other block's", log.time(0), 4);
    Check.due("3 + 5", log.time(1), 8);
    Check.due("8 + 7", log.time(2), 15);
    Counted far = whole("as far as can be", 1, 2, 252, 255, 255, 255, 255, 255, 255, 255, 127);
    Check.due("as far as can be", far.time(1), Long.MAX_VALUE);
    broken("too far by one", 2, 253, 255, 255, 255, 255, 255, 255, 255, 127);
    whole("the second as far as can be", 2, 2, 1, 2, 251, 255, 255, 255, 255, 255, 255, 255, 127);
    broken("the second too far by one", 2, 1, 2, 252, 255, 255, 255, 255, 255, 255, 255, 127);
    whole("the last of times, and once more", 2, 2, 252, 255, 255, 255, 255, 255, 255, 255, 127, 2, 0);
    broken("the last of times, and one more", 2, 252, 255, 255, 255, 255, 255, 255, 255, 127, 2, 1);
    broken("so far that it is above 0 again", 2, 252, 255, 255, 255, 255, 255, 255, 255, 127, 2, 255, 255, 255, 255, 255, 255, 255, 255, 127, 2, 2);
    Counted late = readInstead("a block of the last time", new Block(0, 0, Long.MAX_VALUE, 2, 0, 2, 0), 2, 0);
    Check.due("the last time", late.time(2), Long.MAX_VALUE);
    readInstead("and one more", new Block(0, 0, Long.MAX_VALUE, 2, 0, 2, 1), 0, 1);
    readInstead("and one more", new Block(0, 0, Long.MAX_VALUE, 2, 1), 0, 1);
  }

  private static void numbers() {
    Check.sentence(NUMBERS);
    for (int code = 0; code < 255; code++) {
      if (code == 0 || code >= 4 && code <= 124 && code != 64) {
        Check.due("code " + code, whole("code " + code, 1, 0, 0, code).about(0, 0), code == 0 ? 0 : code - 64);
      } else {
        broken("code " + code, 0, 0, code);
        broken("code " + code + ", with four bytes", 0, 0, code, 2, 0, 2, 0);
      }
    }
    Check.due("255", whole("255", 1, 0, 0, 255, 128, 0, 0, 1).about(0, 0), Integer.MIN_VALUE + 1);
    Check.due("255 for a small one", whole("255", 1, 0, 0, 255, 0, 0, 0, 0).about(0, 0), 0);
    Check.due("255 for the same", whole("255", 2, 0, 0, 65, 0, 0, 255, 0, 0, 0, 1).about(1, 0), 1);
    Check.due("behind it", whole("behind 255", 2, 0, 0, 255, 0, 0, 1, 0, 0, 0, 4).about(1, 0), 196);
    Check.due("up and around", whole("around", 2, 0, 0, 255, 127, 255, 255, 255, 0, 0, 65).about(1, 0), Integer.MIN_VALUE);
    Check.due("down and around", whole("around", 2, 0, 0, 255, 128, 0, 0, 0, 0, 0, 4).about(1, 0), Integer.MAX_VALUE - 59);
    broken("no number", 0, 0);
    broken("255 alone", 0, 0, 255);
    broken("three of four bytes", 0, 0, 255, 1, 2, 3);
    broken("a whole one before a broken one", 0, 0, 65, 0, 0, 64);
  }

  private static int[] textOf(int size, int bytes) {
    int[] event = new int[3 + bytes];
    event[0] = 1;
    event[2] = size;
    return event;
  }

  private static void texts() {
    Check.sentence(TEXTS);
    for (int size = 0; size <= 16; size++) {
      Check.due("size " + size, whole("size " + size, 1, textOf(size, size)).about(0, 0), size);
      if (size > 0) {
        broken("one of " + size + " is missing", textOf(size, size - 1));
      }
    }
    int[] tooLong = {17, 18, 127, 128, 144, 200};
    for (int size : tooLong) {
      broken("size " + size, textOf(size, size));
      broken("size " + size + " and nothing", textOf(size, 0));
    }
    Counted log = whole("any bytes", 1, 1, 0, 3, 97, 0, 255);
    Check.due("any bytes", Check.line(log, 0), "a\0\u00ff");
    broken("no size", 1, 0);
    broken("too long, before what would be events", 1, 0, 17, 2, 0, 2, 0, 2, 0, 2, 0, 2, 0, 2, 0, 2, 0, 2, 0, 2, 0);
    broken("cut, before what would be an event", 1, 0, 3, 2, 0);
  }

  private static void vars() {
    Check.sentence(VARS);
    for (int bytes = 1; bytes <= 11; bytes++) {
      int[] event = new int[1 + bytes];
      event[0] = 2;
      for (int k = 1; k < bytes; k++) {
        event[k] = 128;
      }
      event[bytes] = 1;
      if (bytes <= 9) {
        Check.due("VAR of " + bytes, whole("VAR of " + bytes, 1, event).time(bytes == 1 ? 0 : 1), 3 + (1L << (7 * (bytes - 1))));
      } else {
        broken("VAR of " + bytes, event);
      }
      event[bytes] = 0;
      if (bytes == 1) {
        whole("a VAR of one byte, 0", 1, event);
      } else {
        broken("VAR of " + bytes + ", the last 0", event);
      }
      event[bytes] = 128;
      broken("VAR of " + bytes + ", cut", event);
    }
    broken("the site in two bytes, the last 0", 130, 0, 0);
    broken("the site in nine bytes, the last 0", 130, 128, 128, 128, 128, 128, 128, 128, 0, 0);
    broken("the site in ten bytes", 130, 128, 128, 128, 128, 128, 128, 128, 128, 1, 0);
    broken("ten bytes, of which the last adds no bit to a long", 2, 128, 128, 128, 128, 128, 128, 128, 128, 128, 2);
    broken("the site, cut", 128);
    broken("no time", 2);
  }

  private static void brokenEventsAreLeftOut() {
    Check.sentence("Its events are left out then. THE LINES are all others:");
    Counted log = twoBlocks();
    log.log(0, 2, 9);
    log.flush(0);
    WHOLE.becomes(new Block(0, 0, 3, 2, 0, 2, 0, 0, 0, 64), log, 0);
    read("two right ones before a wrong one", log, 2, 1);
    Check.due("the other block's", log.time(0), 4);
    Check.due("the same writer's other block", log.time(1), 9);
    log.damage(256, 0);
    read("both", log, 1, 2);
    Check.due("the third", log.time(0), 9);
  }

  private static void whatIsNotLookedAt() {
    readInstead("the block's number", WHOLE.with(2, 200, 200), 1, 0);
    readInstead("what is behind the events", WHOLE.with(16, 1, 2, 3), 1, 0);
    readInstead("what is before the sum", WHOLE.with(251, 255), 1, 0);
  }

  private static void numbersAre(Counted log, int... due) {
    Check.due("lines", log.open(), due.length);
    for (int k = 0; k < due.length; k++) {
      Check.due("line " + k, log.about(k, 0), due[k]);
    }
  }

  private static Counted numbered() {
    Counted log = new Counted();
    Check.site(log, "{d}");
    return log;
  }

  private static void orderByTime() {
    Check.sentence(ORDER);
    Counted log = numbered();
    Check.log(log, 0, 0, 8, 10);
    log.flush(0);
    Check.log(log, 1, 0, 0, 11);
    Check.log(log, 1, 0, Long.MAX_VALUE, 12);
    log.flush(1);
    Check.log(log, 3, 0, 1L << 40, 13);
    Check.log(log, 3, 0, Long.MAX_VALUE - 1, 14);
    log.flush(3);
    Check.log(log, 2, 0, 7, 15);
    Check.log(log, 2, 0, 9, 16);
    log.flush(2);
    numbersAre(log, 11, 15, 10, 16, 13, 14, 12);
  }

  private static void orderByWriter() {
    Counted log = numbered();
    for (int writer = 3; writer >= 0; writer--) {
      Check.log(log, writer, 0, 5, writer);
      log.flush(writer);
    }
    numbersAre(log, 0, 1, 2, 3);
    Counted more = numbered();
    Check.log(more, 3, 0, 1, 0);
    Check.log(more, 3, 0, 5, 1);
    Check.log(more, 0, 0, 5, 2);
    Check.log(more, 0, 0, 5, 3);
    Check.log(more, 2, 0, 0, 4);
    more.flush(3);
    more.flush(2);
    more.flush(0);
    Check.log(more, 3, 0, 5, 5);
    Check.log(more, 0, 0, 5, 6);
    Check.log(more, 0, 0, 9, 7);
    more.flush(3);
    more.flush(0);
    Check.log(more, 0, 0, 9, 8);
    numbersAre(more, 4, 0, 2, 3, 6, 1, 5, 7);
  }

  private static void orderByPlace() {
    Counted log = numbered();
    Check.log(log, 2, 0, 4, 10);
    Check.log(log, 2, 0, 4, 11);
    log.flush(2);
    Check.log(log, 1, 0, 4, 20);
    Check.log(log, 1, 0, 4, 21);
    log.flush(1);
    numbersAre(log, 20, 21, 10, 11);
    Block first = new Block(2, 0, 4, 0, 0, 74, 0, 0, 65);
    first.becomes(first.with(1, 1), log, 0);
    numbersAre(log, 10, 11, 20, 21);
    Check.due("all of writer 1", log.about(0, -2) + log.about(1, -2) + log.about(2, -2) + log.about(3, -2), 4);
    first.with(1, 1).becomes(first.with(1, 1).with(11, 5), log, 0);
    numbersAre(log, 20, 21, 10, 11);
    Counted same = numbered();
    for (int k = 0; k < 30; k++) {
      Check.log(same, 0, 0, 5, k);
      same.flush(k % 3 == 0 ? 0 : 1);
    }
    Check.due("lines", same.open(), 28);
    for (int k = 0; k < 28; k++) {
      Check.due("line " + k, same.about(k, 0), k);
    }
  }

  private static void linesUntilTheNextOpen() {
    Check.sentence("The file is READ, and gives THE LINES, as they are until the next open(), whatever becomes of the file: how many.");
    Counted log = new Counted();
    Check.site(log, "{d}{t}");
    Check.log(log, 0, 0, 1, 7, "kept");
    Check.due("what is in no file is not read", log.open(), 0);
    log.flush(0);
    Check.due("not before the next open", log.count(), 0);
    Check.due("open", log.open(), 1);
    for (int place = 14; place < 24; place++) {
      log.damage(place, 'x');
    }
    Check.due("not touched by damage", Check.line(log, 0), "7kept");
    Check.log(log, 0, 0, 2, 8, "more");
    log.flush(0);
    Check.due("nor by a block more", log.count(), 1);
    log.crash(0);
    Check.due("nor by a crash", Check.line(log, 0), "7kept");
    Check.due("nor what was read of it", log.broken(), 0);
    Check.due("the next open", log.open(), 1);
    Check.due("has the second", Check.line(log, 0), "8more");
    log.rotate();
    Check.due("nor by a new file", Check.line(log, 0), "8more");
    Check.due("open", log.open(), 0);
    Check.due("gone", log.count(), 0);
  }

  private static void brokenAsItWasRead() {
    Check.sentence("How many blocks, and what was left at the end, were broken when it was read.");
    Counted log = twoBlocks();
    Check.due("not read yet", log.broken(), 0);
    log.damage(0, 0);
    Check.due("not read yet", log.broken(), 0);
    read("one", log, 1, 1);
    log.damage(0, 90);
    log.damage(256, 0);
    log.damage(300, 1);
    Check.due("as it was read", log.broken(), 1);
    read("the other", log, 1, 1);
    log.damage(0, 0);
    read("both", log, 0, 2);
    log.rotate();
    Check.due("as it was read", log.broken(), 2);
    read("nothing", log, 0, 0);
  }

  private static void allBroken() {
    Counted log = new Counted();
    log.site();
    for (int k = 0; k < 23; k++) {
      log.log(0, 0, 0);
      log.flush(0);
      log.damage(256 * k, 0);
    }
    for (int k = 0; k < 120; k++) {
      log.log(1, 0, 0);
    }
    log.crash(255);
    read("23 and what was left", log, 0, 24);
  }

  /** The most lines that there can be: each block has nothing but zeros, which are events of site 0. */
  private static void mostLines() {
    Counted log = new Counted();
    log.site();
    for (int block = 0; block < 24; block++) {
      log.log(block % 4, 0, block);
      log.flush(block % 4);
      Block one = new Block(block % 4, block / 4, block, 0, 0);
      one.becomes(one.with(13, 238), log, block);
    }
    read("119 of each block", log, 24 * 119, 0);
    Check.due("all hold", log.count(), 24 * 119);
    Check.due("the last", log.time(24 * 119 - 1), 23);
    Check.due("the last of the first block", log.time(118), 0);
    Check.due("the first of the second", log.time(119), 1);
    Check.fails("no more", java.util.NoSuchElementException.class, () -> log.time(24 * 119));
  }

  private static void readAgainAndAgain() {
    Counted log = new Counted();
    Check.site(log, "{d}{d}{d}{d}{d}{d}");
    for (int k = 0; k < 29; k++) {
      Check.log(log, 0, 0, 0, k, k, k, k, k, k);
    }
    log.flush(0);
    for (int k = 0; k < 100; k++) {
      Check.due("open", log.open(), 29);
      Check.due("the last number", log.about(28, 5), 28);
    }
  }
}
