/** Promise 14 (open) and promise 15 (broken): what is whole, what is not, and the order of lines. */
public final class ReadTest {
  public static void main(String[] args) {
    order();
    orderByPlaceInTheFile();
    linesStay();
    heads();
    sums();
    numbers();
    texts();
    vars();
    times();
    sites();
    whatIsNotLookedAt();
    mostLines();
    readAgainAndAgain();
    Check.end();
  }

  private static void order() {
    EventLog log = new EventLog();
    Check.site(log, "{d}");
    Check.log(log, 3, 0, 1, 0);
    Check.log(log, 3, 0, 5, 1);
    Check.log(log, 0, 0, 5, 2);
    Check.log(log, 0, 0, 5, 3);
    Check.log(log, 2, 0, 0, 4);
    log.flush(3);
    log.flush(2);
    log.flush(0);
    Check.log(log, 3, 0, 5, 5);
    Check.log(log, 0, 0, 5, 6);
    Check.log(log, 0, 0, 9, 7);
    log.flush(3);
    log.flush(0);
    Check.log(log, 0, 0, 9, 8);
    Check.due("what is not in the file is not read", log.open(), 8);
    int[] due = {4, 0, 2, 3, 6, 1, 5, 7};
    for (int k = 0; k < due.length; k++) {
      Check.due("line " + k, log.about(k, 0), due[k]);
    }
  }

  private static void orderByPlaceInTheFile() {
    EventLog log = new EventLog();
    Check.site(log, "{d}");
    Check.log(log, 2, 0, 4, 10);
    log.flush(2);
    Check.log(log, 1, 0, 4, 20);
    log.flush(1);
    log.open();
    Check.due("by writer", log.about(0, 0), 20);
    log.damage(1, 1);
    Check.mendSum(log, 0);
    Check.due("two lines", log.open(), 2);
    Check.due("of one writer, by place", log.about(0, 0), 10);
    Check.due("both of writer 1", log.about(0, -2) + log.about(1, -2), 2);
    log.damage(11, 5);
    Check.mendSum(log, 0);
    Check.due("two lines", log.open(), 2);
    Check.due("by time", log.about(0, 0), 20);
  }

  private static void linesStay() {
    EventLog log = new EventLog();
    Check.site(log, "{t}");
    Check.log(log, 0, 0, 1, "kept");
    log.flush(0);
    Check.due("open", log.open(), 1);
    log.damage(18, 'x');
    Check.due("not touched by damage", Check.line(log, 0), "kept");
    Check.due("not broken yet", log.broken(), 0);
    Check.log(log, 0, 0, 2, "more");
    log.flush(0);
    Check.due("one line still", log.count(), 1);
    log.crash(0);
    log.rotate();
    Check.due("nor by a crash", Check.line(log, 0), "kept");
    Check.due("open", log.open(), 0);
    Check.due("gone", log.count(), 0);
  }

  /** An object with two blocks: a whole one of writer 1, and before it one to spoil. */
  private static EventLog twoBlocks() {
    EventLog log = new EventLog();
    Check.site(log, "{d}");
    Check.site(log, "{t}");
    Check.site(log, "");
    log.log(0, 2, 3);
    log.flush(0);
    log.log(1, 2, 4);
    log.flush(1);
    return log;
  }

  private static void read(String what, EventLog log, int lines, int broken) {
    Check.due(what + ": lines", log.open(), lines);
    Check.due(what + ": broken", log.broken(), broken);
  }

  private static void headIs(String what, boolean whole, int at, int... bytes) {
    EventLog log = twoBlocks();
    Check.damage(log, at, bytes);
    Check.mendSum(log, 0);
    read(what, log, whole ? 2 : 1, whole ? 0 : 1);
  }

  private static void heads() {
    headIs("as it was", true, 0, 90);
    headIs("another first byte", false, 0, 91);
    headIs("no first byte", false, 0, 0);
    headIs("writer 3", true, 1, 3);
    headIs("writer 4", false, 1, 4);
    headIs("writer 255", false, 1, 255);
    headIs("the greatest time", true, 4, 127, 255, 255, 255, 255, 255, 255, 255);
    headIs("a time below 0", false, 4, 128);
    headIs("time -1", false, 4, 255, 255, 255, 255, 255, 255, 255, 255);
    headIs("n 239", false, 12, 0, 239);
    headIs("n 258", false, 12, 1, 2);
    headIs("n 32770", false, 12, 128, 2);
    headIs("n 1, half an event", false, 12, 0, 1);
    headIs("n 3, one and a half", false, 12, 0, 3);
    EventLog none = twoBlocks();
    Check.damage(none, 12, 0, 0);
    Check.mendSum(none, 0);
    read("n 0, no events", none, 1, 0);
    none.damage(4, 128);
    Check.mendSum(none, 0);
    read("n 0, and a time below 0", none, 1, 1);
    tooManyBytes(238, 0);
    tooManyBytes(239, 1);
    tooManyBytes(240, 1);
  }

  /** Pairs of zeros, and a text that goes on into the sum: right events all, but for n. */
  private static void tooManyBytes(int n, int broken) {
    EventLog log = new EventLog();
    log.site();
    Check.site(log, "{t}");
    log.log(0, 0, 0);
    log.flush(0);
    log.damage(13, n);
    Check.damage(log, 248, 1, 0, n - 237);
    Check.mendSum(log, 0);
    read("n " + n, log, broken == 0 ? 118 : 0, broken);
  }

  private static void sums() {
    for (int place = 0; place < 256; place += 17) {
      EventLog log = twoBlocks();
      log.damage(place, log.byteOf(place) + 1);
      read("byte " + place, log, 1, 1);
      log.damage(place, log.byteOf(place) - 1);
      read("byte " + place + " mended", log, 2, 0);
    }
    EventLog log = twoBlocks();
    log.damage(252, log.byteOf(252) ^ 128);
    log.damage(256, 0);
    read("both", log, 0, 2);
    log.rotate();
    Check.due("as it was read", log.broken(), 2);
  }

  private static EventLog events(String what, boolean whole, int lines, int... bytes) {
    EventLog log = twoBlocks();
    Check.putEvents(log, bytes);
    read(what, log, whole ? 1 + lines : 1, whole ? 0 : 1);
    return log;
  }

  private static void numbers() {
    Check.due("4", events("4", true, 1, 0, 0, 4).about(0, 0), -60);
    Check.due("63", events("63", true, 1, 0, 0, 63).about(0, 0), -1);
    Check.due("65", events("65", true, 1, 0, 0, 65).about(0, 0), 1);
    Check.due("124", events("124", true, 1, 0, 0, 124).about(0, 0), 60);
    Check.due("0", events("0", true, 1, 0, 0, 0).about(0, 0), 0);
    Check.due("255", events("255", true, 1, 0, 0, 255, 128, 0, 0, 1).about(0, 0), Integer.MIN_VALUE + 1);
    Check.due("255 for a small one", events("255", true, 1, 0, 0, 255, 0, 0, 0, 0).about(0, 0), 0);
    Check.due("wraps", events("wraps", true, 2, 0, 0, 255, 127, 255, 255, 255, 0, 0, 65).about(1, 0), Integer.MIN_VALUE);
    int[] wrong = {1, 2, 3, 64, 125, 126, 127, 128, 254};
    for (int code : wrong) {
      events("code " + code, false, 0, 0, 0, code);
    }
    events("no number", false, 0, 0, 0);
    events("three of four bytes", false, 0, 0, 0, 255, 1, 2, 3);
    events("a whole one before a broken one", false, 0, 0, 0, 65, 0, 0, 64);
  }

  private static void texts() {
    EventLog log = events("a text", true, 1, 1, 0, 3, 97, 0, 255);
    Check.due("its size", log.about(0, 0), 3);
    Check.due("its bytes", Check.line(log, 0), "a\0\u00ff");
    int[] sixteen = new int[19];
    sixteen[0] = 1;
    sixteen[2] = 16;
    events("16 bytes", true, 1, sixteen);
    int[] seventeen = new int[20];
    seventeen[0] = 1;
    seventeen[2] = 17;
    events("17 bytes", false, 0, seventeen);
    events("no size", false, 0, 1, 0);
    events("two of three bytes", false, 0, 1, 0, 3, 97, 97);
    events("no bytes", true, 1, 1, 0, 0);
    events("too long before what would be events", false, 0, 1, 0, 17, 2, 0, 2, 0, 2, 0, 2, 0, 2, 0, 2, 0, 2, 0, 2, 0, 2, 0);
    events("cut before what would be an event", false, 0, 1, 0, 3, 2, 0);
  }

  private static void vars() {
    events("two bytes", true, 1, 2, 128, 1);
    events("two bytes, the last 0", false, 0, 2, 128, 0);
    events("the site in two bytes, the last 0", false, 0, 130, 0, 0);
    events("nine bytes", true, 1, 2, 128, 128, 128, 128, 128, 128, 128, 128, 1);
    events("nine bytes, the last 0", false, 0, 2, 128, 128, 128, 128, 128, 128, 128, 128, 0);
    events("ten bytes", false, 0, 2, 128, 128, 128, 128, 128, 128, 128, 128, 128, 1);
    events("ten bytes, the last of them without a bit that counts", false, 0, 2, 128, 128, 128, 128, 128, 128, 128, 128, 128, 2);
    events("a site in ten bytes", false, 0, 130, 128, 128, 128, 128, 128, 128, 128, 128, 1, 0);
    events("cut", false, 0, 2, 128);
    events("a site, cut", false, 0, 128);
    events("a far site", false, 0, 255, 255, 255, 255, 255, 255, 255, 255, 127, 0);
    events("a site that is one as an int", false, 0, 130, 128, 128, 128, 16, 0);
  }

  private static void times() {
    EventLog log = events("the first's VAR counts", true, 2, 2, 5, 2, 7);
    Check.due("the other block's", log.time(0), 4);
    Check.due("3 + 5", log.time(1), 8);
    Check.due("8 + 7", log.time(2), 15);
    events("too far by one", false, 0, 2, 253, 255, 255, 255, 255, 255, 255, 255, 127);
    EventLog far = events("as far as can be", true, 1, 2, 252, 255, 255, 255, 255, 255, 255, 255, 127);
    Check.due("as far as can be", far.time(1), Long.MAX_VALUE);
    events("too far with the second", false, 0, 2, 252, 255, 255, 255, 255, 255, 255, 255, 127, 2, 1);
    events("not with the second", true, 2, 2, 252, 255, 255, 255, 255, 255, 255, 255, 127, 2, 0);
  }

  private static void sites() {
    EventLog log = twoBlocks();
    Check.putEvents(log, 3, 0);
    read("no such site", log, 1, 1);
    Check.site(log, "new");
    Check.due("not before the next open", log.broken(), 1);
    read("now there is", log, 2, 0);
    Check.due("printed", Check.line(log, 0), "new");
  }

  private static void whatIsNotLookedAt() {
    headIs("the block's number", true, 2, 200, 200);
    headIs("what is behind the events", true, 16, 1, 2, 3);
  }

  private static void readAgainAndAgain() {
    EventLog log = new EventLog();
    Check.site(log, "{d}{d}{d}{d}{d}{d}");
    for (int k = 0; k < 29; k++) {
      Check.log(log, 0, 0, 0, k, k, k, k, k, k);
    }
    log.flush(0);
    for (int k = 0; k < 100; k++) {
      Check.due("open", log.open(), 29);
      Check.due("the last number", log.about(28, 5), 28);
    }
  }

  private static void mostLines() {
    EventLog log = new EventLog();
    log.site();
    for (int block = 0; block < 24; block++) {
      log.log(block % 4, 0, block);
      log.flush(block % 4);
      log.damage(256 * block + 13, 238);
      Check.mendSum(log, block);
    }
    Check.due("119 of each block", log.open(), 24 * 119);
    Check.due("none broken", log.broken(), 0);
    Check.due("all hold", log.count(), 24 * 119);
    Check.due("the last", log.time(24 * 119 - 1), 23);
    Check.due("the last of the first block", log.time(118), 0);
    Check.due("the first of the second", log.time(119), 1);
  }
}
