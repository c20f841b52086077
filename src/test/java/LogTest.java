import java.util.List;
import java.util.NoSuchElementException;

/** Promise 7 (log): events, how they are packed, blocks, and what is refused. */
public final class LogTest {
  private static final String LAST =
      "a number x, with last being that slot's number in the event of the same site before it in the block (0 if there is none), and x - last as an int that wraps around: 0 if that is 0; 64 and that, if it is -60 .. 60; otherwise 255 and the four bytes of x, the highest first.";
  private static final String VAR =
      "A VAR is a number not below 0, seven bits at a time, the lowest first, 128 more in all but the last byte, as few as can be.";
  private static final int LEAST = Integer.MIN_VALUE;
  private static final int GREATEST = Integer.MAX_VALUE;
  private static final String FULL = "sixteen bytes...";

  public static void main(String[] args) {
    writers();
    sites();
    timesFromZero();
    timesNotBelowTheLast();
    lastTimeIsOfWriterAndFile();
    argumentsByKind();
    argumentsByCount();
    siteAsVar();
    firstEventHasNoDifference();
    differencesAsVars();
    stepsFromNothing();
    steps();
    stepsThatWrapAround();
    lastIsOfTheSite();
    lastIsOfTheSlot();
    lastIsOfTheBlockAndWriter();
    lastOfEverySiteAndSlot();
    textsPacked();
    blockOfOneEvent();
    blockThatIsFull();
    blockNumbers();
    bytesOfEvents();
    fitsIn();
    longestEvent();
    refusedByAFullFile();
    Check.end();
  }

  private static Counted withSite(String format) {
    Counted log = new Counted();
    Check.due("site of " + format, Check.site(log, format), 0);
    return log;
  }

  private static void writers() {
    Check.sentence("WRITERS are 0 .. 3.");
    for (int writer = 0; writer < 4; writer++) {
      Counted log = withSite("");
      Check.due("writer " + writer, log.log(writer, 0, 0), 2);
      Check.due("its block", log.flush(writer), 1);
      Check.due("has it", log.byteOf(1), writer);
    }
    int[] none = {-1, 4, LEAST, GREATEST};
    for (int writer : none) {
      Counted log = withSite("");
      Check.fails("writer " + writer, NoSuchElementException.class, () -> log.log(writer, 0, 0));
    }
  }

  private static void sites() {
    Check.sentence("NoSuchElementException: there is no such site, writer, table, code, or line.");
    Counted log = withSite("");
    Check.due("site 0", log.log(0, 0, 0), 2);
    Check.fails("site 1", NoSuchElementException.class, () -> log.log(0, 1, 0));
    Check.site(log, "a second one");
    Check.due("site 1", log.log(0, 1, 0), 4);
    int[] none = {-1, 2, 39, 40, LEAST, GREATEST};
    for (int site : none) {
      Check.fails("site " + site, NoSuchElementException.class, () -> log.log(0, site, 0));
    }
    for (int k = 2; k < 40; k++) {
      Check.site(log, "site " + k);
    }
    Check.due("site 39", log.log(0, 39, 0), 6);
    Check.fails("site 40", NoSuchElementException.class, () -> log.log(0, 40, 0));
  }

  private static void timesFromZero() {
    Check.sentence("An EVENT has a site, a time (a long, not below 0), and for each slot a number, or a text for {t}.");
    long[] right = {0, 1, GREATEST, 1L + GREATEST, Long.MAX_VALUE - 1, Long.MAX_VALUE};
    for (long time : right) {
      Counted log = withSite("");
      Check.due("time " + time, log.log(0, 0, time), 2);
      log.flush(0);
      log.open();
      Check.due("read", log.time(0), time);
    }
    long[] wrong = {-1, -2, LEAST, Long.MIN_VALUE, Long.MIN_VALUE + 1};
    for (long time : wrong) {
      Counted log = withSite("");
      Check.fails("time " + time, IllegalArgumentException.class, () -> log.log(0, 0, time));
      Check.due("0 is right still", log.log(0, 0, 0), 2);
    }
  }

  private static void timesNotBelowTheLast() {
    Check.sentence("IllegalArgumentException when the arguments are not of the slots' kinds, one for each, or time is below 0 or the writer's last event's in this file;");
    long[] lasts = {0, 1, 1000, 1L << 40, Long.MAX_VALUE};
    for (long last : lasts) {
      Counted log = withSite("");
      log.log(0, 0, last);
      Check.fails("less by one than " + last, IllegalArgumentException.class, () -> log.log(0, 0, last - 1));
      Check.fails("the least", IllegalArgumentException.class, () -> log.log(0, 0, Long.MIN_VALUE));
      Check.due("the same", log.log(0, 0, last), 4);
      if (last < Long.MAX_VALUE) {
        Check.due("one more", log.log(0, 0, last + 1), 6);
        Check.fails("which is the last now", IllegalArgumentException.class, () -> log.log(0, 0, last));
      }
    }
  }

  private static void lastTimeIsOfWriterAndFile() {
    Counted log = withSite("");
    log.log(0, 0, 7);
    Check.due("another writer's last is its own", log.log(1, 0, 0), 2);
    log.flush(0);
    Check.fails("below it, behind a flush", IllegalArgumentException.class, () -> log.log(0, 0, 6));
    Check.due("the same, behind a flush", log.log(0, 0, 7), 2);
    for (int k = 0; k < 119; k++) {
      log.log(0, 0, 8);
    }
    Check.fails("below it, in the block behind", IllegalArgumentException.class, () -> log.log(0, 0, 7));
    log.rotate();
    Check.due("a new file has no last", log.log(0, 0, 0), 2);
    log.crash(0);
    log.rotate();
    Check.due("nor has one behind a crash", log.log(0, 0, 0), 2);
  }

  private static void refusedArguments(Counted log, Object... arguments) {
    Check.fails("arguments " + List.of(arguments), IllegalArgumentException.class, () -> Check.log(log, 0, 0, 0, arguments));
  }

  private static void argumentsByKind() {
    String[] numbers = {"{d}", "{u}", "{x}", "{f1}", "{f6}", "{e0}", "{e7}"};
    for (String kind : numbers) {
      Counted log = withSite(kind);
      refusedArguments(log, "");
      refusedArguments(log, "5");
      Check.due("a number for " + kind, Check.log(log, 0, 0, 0, 5), 3);
    }
    Counted text = withSite("{t}");
    refusedArguments(text, 0);
    refusedArguments(text, 5);
    Check.due("a text for {t}", Check.log(text, 0, 0, 0, ""), 3);
    Counted both = withSite("{d}{t}");
    refusedArguments(both, "", 1);
    refusedArguments(both, "", "");
    refusedArguments(both, 1, 1);
    Check.due("in their order", Check.log(both, 0, 0, 0, 1, ""), 4);
  }

  private static void argumentsByCount() {
    for (int slots = 0; slots <= 6; slots++) {
      Counted log = withSite("{d}".repeat(slots));
      for (int given = 0; given <= 6; given++) {
        for (int k = 0; k < given; k++) {
          log.arg(0);
        }
        String due = given == slots ? Integer.toString(2 + slots) : "IllegalArgumentException";
        Check.due(given + " for " + slots, Check.outcome(() -> log.log(0, 0, 0)), due);
      }
    }
  }

  private static void siteAsVar() {
    Check.sentence("PACKED it is: the site as a VAR;");
    Counted log = new Counted();
    for (int k = 0; k < 40; k++) {
      Check.site(log, "s" + k);
    }
    log.log(0, 0, 0);
    log.log(0, 1, 0);
    log.log(0, 39, 0);
    log.flush(0);
    Check.due("sites", Check.bytes(log, 14, 7), "0 0 1 0 39 0 0");
  }

  private static void firstEventHasNoDifference() {
    Check.sentence("its time less that of the event before it in the block as a VAR (of a block's first event that is 0);");
    Counted log = withSite("");
    log.log(0, 0, 1000);
    log.log(0, 0, 1005);
    log.flush(0);
    Check.due("behind another block", log.log(0, 0, 2000), 2);
    log.log(0, 0, 2001);
    log.log(0, 0, 2001);
    log.flush(0);
    Check.due("the first block", Check.bytes(log, 14, 5), "0 0 0 5 0");
    Check.due("the second", Check.bytes(log, 256 + 14, 7), "0 0 0 1 0 0 0");
    log.open();
    Check.due("read", log.time(1), 1005);
    Check.due("read", log.time(4), 2001);
  }

  private static void difference(long difference, int... bytes) {
    Counted log = withSite("");
    log.log(0, 0, 0);
    Check.due("VAR of " + difference, log.log(0, 0, difference), 3 + bytes.length);
    log.flush(0);
    int[] events = new int[3 + bytes.length];
    System.arraycopy(bytes, 0, events, 3, bytes.length);
    new Block(0, 0, 0, events).isInFile("VAR of " + difference, log, 0);
    log.open();
    Check.due("read", log.time(1), difference);
  }

  private static void differencesAsVars() {
    Check.sentence(VAR);
    difference(0, 0);
    difference(1, 1);
    difference(127, 127);
    difference(128, 128, 1);
    difference(129, 129, 1);
    difference(255, 255, 1);
    difference(256, 128, 2);
    difference((1L << 14) - 1, 255, 127);
    difference(1L << 14, 128, 128, 1);
    difference((1L << 21) - 1, 255, 255, 127);
    difference(1L << 21, 128, 128, 128, 1);
    difference((1L << 28) - 1, 255, 255, 255, 127);
    difference(1L << 28, 128, 128, 128, 128, 1);
    difference(GREATEST, 255, 255, 255, 255, 7);
    difference(1L + GREATEST, 128, 128, 128, 128, 8);
    difference((1L << 35) - 1, 255, 255, 255, 255, 127);
    difference(1L << 35, 128, 128, 128, 128, 128, 1);
    difference((1L << 42) - 1, 255, 255, 255, 255, 255, 127);
    difference(1L << 42, 128, 128, 128, 128, 128, 128, 1);
    difference((1L << 49) - 1, 255, 255, 255, 255, 255, 255, 127);
    difference(1L << 49, 128, 128, 128, 128, 128, 128, 128, 1);
    difference((1L << 56) - 1, 255, 255, 255, 255, 255, 255, 255, 127);
    difference(1L << 56, 128, 128, 128, 128, 128, 128, 128, 128, 1);
    difference(Long.MAX_VALUE - 1, 254, 255, 255, 255, 255, 255, 255, 255, 127);
    difference(Long.MAX_VALUE, 255, 255, 255, 255, 255, 255, 255, 255, 127);
  }

  /** A first number, and another of the same site behind it: how that is packed. */
  private static void step(int before, int x, String due) {
    Counted log = withSite("{d}");
    int used = Check.log(log, 0, 0, 0, before);
    int count = due.split(" ").length;
    Check.due(x + " behind " + before, Check.log(log, 0, 0, 0, x), used + 2 + count);
    log.flush(0);
    Check.due(x + " behind " + before, Check.bytes(log, 14 + used + 2, count), due);
    log.open();
    Check.due("read", log.about(1, 0), x);
  }

  private static String whole(int x) {
    return "255 " + (x >>> 24) + " " + (x >>> 16 & 255) + " " + (x >>> 8 & 255) + " " + (x & 255);
  }

  private static void stepsFromNothing() {
    Check.sentence(LAST);
    int[] numbers = {0, 1, -1, 59, 60, 61, -59, -60, -61, LEAST, GREATEST};
    String[] packed = {"0", "65", "63", "123", "124", whole(61), "5", "4", whole(-61), whole(LEAST), whole(GREATEST)};
    for (int k = 0; k < numbers.length; k++) {
      Counted log = withSite("{d}");
      int count = packed[k].split(" ").length;
      Check.due("a first " + numbers[k], Check.log(log, 0, 0, 0, numbers[k]), 2 + count);
      log.flush(0);
      Check.due("a first " + numbers[k], Check.bytes(log, 16, count), packed[k]);
    }
    Check.due("the highest first", whole(0x01020304), "255 1 2 3 4");
    Check.due("the highest first", whole(-61), "255 255 255 255 195");
  }

  private static void steps() {
    int[] befores = {0, 1, -1, 60, -60, 1000, -1000, 0x01020304};
    for (int before : befores) {
      step(before, before, "0");
      step(before, before + 1, "65");
      step(before, before - 1, "63");
      step(before, before + 59, "123");
      step(before, before + 60, "124");
      step(before, before + 61, whole(before + 61));
      step(before, before - 59, "5");
      step(before, before - 60, "4");
      step(before, before - 61, whole(before - 61));
    }
  }

  private static void stepsThatWrapAround() {
    step(GREATEST, LEAST, "65");
    step(LEAST, GREATEST, "63");
    step(GREATEST, LEAST + 59, "124");
    step(GREATEST, LEAST + 60, whole(LEAST + 60));
    step(LEAST, GREATEST - 59, "4");
    step(LEAST, GREATEST - 60, whole(GREATEST - 60));
    step(LEAST, 0, whole(0));
    step(0, LEAST, whole(LEAST));
    step(LEAST, LEAST, "0");
    step(GREATEST - 30, LEAST + 29, "124");
    step(GREATEST - 30, LEAST + 30, whole(LEAST + 30));
  }

  private static void lastIsOfTheSite() {
    Counted log = withSite("{d}");
    Check.site(log, "{x}");
    Check.site(log, "");
    Check.log(log, 0, 0, 0, 10);
    Check.log(log, 0, 1, 0, 11);
    Check.log(log, 0, 2, 0);
    Check.log(log, 0, 0, 0, 12);
    Check.log(log, 0, 1, 0, 11);
    log.flush(0);
    Check.due("each site's own", Check.bytes(log, 14, 14), "0 0 74 1 0 75 2 0 0 0 66 1 0 0");
  }

  private static void lastIsOfTheSlot() {
    Counted log = withSite("{d}{t}{u}{x}{f1}{e0}");
    Check.log(log, 0, 0, 0, 10, "", 20, 30, 40, 50);
    Check.log(log, 0, 0, 0, 11, "a", 22, 33, 44, 55);
    Check.log(log, 0, 0, 0, 11, "", 22, 33, 44, 54);
    log.flush(0);
    Check.due("each slot's own", Check.bytes(log, 14, 25), "0 0 74 0 84 94 104 114 0 0 65 1 97 66 67 68 69 0 0 0 0 0 0 0 63");
  }

  private static void lastIsOfTheBlockAndWriter() {
    Counted log = withSite("{d}");
    Check.log(log, 2, 0, 0, 12);
    Check.due("another writer", Check.log(log, 1, 0, 0, 12), 3);
    log.flush(2);
    Check.due("another block", Check.log(log, 2, 0, 0, 12), 3);
    log.flush(2);
    log.flush(1);
    for (int block = 0; block < 3; block++) {
      Check.due("12 and no 0", Check.bytes(log, 256 * block + 14, 3), "0 0 76");
    }
    Check.log(log, 0, 0, 0, 12);
    log.rotate();
    Check.log(log, 0, 0, 0, 12);
    log.flush(0);
    Check.due("another file", Check.bytes(log, 14, 3), "0 0 76");
    Counted full = withSite("{d}");
    for (int k = 0; k < 80; k++) {
      Check.log(full, 0, 0, 0, 12);
    }
    Check.due("the block went by itself", full.size(), 256);
    full.flush(0);
    Check.due("another block", Check.bytes(full, 256 + 14, 3), "0 0 76");
  }

  /** All 40 sites have six slots; each of them has a last of its own, when it is packed and when it is read. */
  private static void lastOfEverySiteAndSlot() {
    Counted log = new Counted();
    for (int site = 0; site < 40; site++) {
      Check.site(log, (char) ('A' + site) + "{d}{d}{d}{d}{d}{d}");
    }
    int[] sites = {39, 0, 38, 1, 20};
    for (int again = 0; again < 2; again++) {
      for (int site : sites) {
        Check.log(log, 0, site, 0, 1000 * site, site + 1, site + 2, site + 3, site + 4, 2000 * site + 1 + again);
      }
    }
    log.flush(0);
    Check.due("of the first site again, all but one the same", Check.bytes(log, 14 + 72, 16), "39 0 0 0 0 0 0 65 0 0 0 0 0 0 0 65");
    Check.due("open", log.open(), 10);
    for (int k = 0; k < 10; k++) {
      int site = sites[k % 5];
      Check.due("site", log.about(k, -1), site);
      Check.due("the first number", log.about(k, 0), 1000 * site);
      Check.due("the second number", log.about(k, 1), site + 1);
      Check.due("the last number", log.about(k, 5), 2000 * site + 1 + k / 5);
    }
  }

  private static void textsPacked() {
    Check.sentence("A text: its size, and its bytes.");
    Counted log = withSite("{t}{t}{t}");
    Check.due("packed", Check.log(log, 0, 0, 0, "", "\u00ff", FULL), 2 + 1 + 2 + 17);
    Check.due("the same again, by no difference", Check.log(log, 0, 0, 0, "", "\u00ff", FULL), 44);
    log.flush(0);
    String due = "0 0 0 1 255 16 115 105 120 116 101 101 110 32 98 121 116 101 115 46 46 46";
    Check.due("packed", Check.bytes(log, 14, 44), due + " " + due);
  }

  private static void blockOfOneEvent() {
    Check.sentence("A BLOCK has 256 bytes: 90; the writer; which block of the writer it is in this file (from 0 on, two bytes, the higher one first); the time of its first event, eight bytes, the highest first; how many bytes its events have, n (at most 238; two bytes, the higher one first); these; zeros; and the last four, the highest first, THE SUM: of all bytes before it, s * 31 and the byte, from s = 0 on, as an int that wraps around.");
    Counted log = withSite("a{d}");
    Check.log(log, 3, 0, 0x0102030405060708L, -2);
    log.flush(3);
    Check.due("size", log.size(), 256);
    Check.due("the head", Check.bytes(log, 0, 17), "90 3 0 0 1 2 3 4 5 6 7 8 0 3 0 0 62");
    new Block(3, 0, 0x0102030405060708L, 0, 0, 62).isInFile("the block", log, 0);
    Counted late = withSite("");
    late.log(0, 0, Long.MAX_VALUE);
    late.log(0, 0, Long.MAX_VALUE);
    late.flush(0);
    new Block(0, 0, Long.MAX_VALUE, 0, 0, 0, 0).isInFile("the greatest time", late, 0);
  }

  private static void blockThatIsFull() {
    Counted log = withSite("");
    for (int k = 1; k <= 119; k++) {
      Check.due("two bytes each", log.log(1, 0, 5), 2 * k);
    }
    Check.due("238 fit in", log.size(), 0);
    Check.due("the next one is alone", log.log(1, 0, 300), 2);
    Check.due("the block went to the file", log.size(), 256);
    new Block(1, 0, 5, new int[238]).isInFile("full", log, 0);
    log.flush(1);
    Check.due("the next", Check.bytes(log, 256, 16), "90 1 0 1 0 0 0 0 0 0 1 44 0 2 0 0");
  }

  private static void blockNumbers() {
    Counted log = withSite("");
    int[] writers = {2, 0, 2, 2, 1, 0, 3, 2};
    int[] numbers = {0, 0, 1, 2, 0, 1, 0, 3};
    for (int writer : writers) {
      log.log(writer, 0, 0);
      log.flush(writer);
    }
    for (int k = 0; k < writers.length; k++) {
      Check.due("block " + k, Check.bytes(log, 256 * k, 4), "90 " + writers[k] + " 0 " + numbers[k]);
    }
    log.flush(0);
    log.log(0, 0, 0);
    log.flush(0);
    Check.due("a flush of nothing is no block", Check.bytes(log, 256 * 8, 4), "90 0 0 2");
    log.rotate();
    log.log(2, 0, 0);
    log.flush(2);
    Check.due("from 0 on in a new file", Check.bytes(log, 0, 4), "90 2 0 0");
  }

  private static void bytesOfEvents() {
    Check.sentence("how many bytes of events its block has then.");
    Counted log = withSite("{d}{t}");
    Check.site(log, "");
    Check.due("a site, a time, a number, a size, two bytes", Check.log(log, 0, 0, 5, 1, "ab"), 6);
    Check.due("with them", log.log(0, 1, 5), 8);
    Check.due("a time of two bytes", log.log(0, 1, 5 + 128), 11);
    Check.due("a number of five", Check.log(log, 0, 0, 5 + 128, 100, ""), 19);
    Check.due("another writer's own", log.log(1, 1, 0), 2);
    Check.due("its own still", log.log(0, 1, 5 + 128), 21);
    log.flush(1);
    Check.due("behind another's flush", log.log(0, 1, 5 + 128), 23);
    log.flush(0);
    Check.due("behind its own", log.log(0, 1, 5 + 128), 2);
  }

  /** A block of 228 bytes, and one event more. */
  private static void fitsIn(int textSize, int due, int dueSize) {
    Counted log = withSite("{t}");
    for (int k = 0; k < 12; k++) {
      Check.log(log, 0, 0, 0, FULL);
    }
    Check.due("228 and " + (3 + textSize), Check.log(log, 0, 0, 0, "y".repeat(textSize)), due);
    Check.due("size", log.size(), dueSize);
  }

  private static void fitsIn() {
    Check.sentence("an event that does not fit in any more makes the block go to THE FILE, and is packed into an empty one.");
    fitsIn(6, 237, 0);
    fitsIn(7, 238, 0);
    fitsIn(8, 11, 256);
    fitsIn(16, 19, 256);
    Counted log = withSite("{d}");
    Check.site(log, "");
    Check.log(log, 0, 0, 0, 1000);
    for (int k = 0; k < 114; k++) {
      log.log(0, 1, 0);
    }
    Check.due("235 and 3, by a difference", Check.log(log, 0, 0, 0, 1001), 238);
    Check.due("packed anew, by no difference, at no distance", Check.log(log, 0, 0, 900, 1001), 7);
    log.flush(0);
    Check.due("the second", Check.bytes(log, 256, 22), "90 0 0 1 0 0 0 0 0 0 3 132 0 7 0 0 255 0 0 3 233 0");
  }

  private static void longestEvent() {
    Counted texts = withSite("{t}{t}{t}{t}{t}{t}");
    Object[] full = {FULL, FULL, FULL, FULL, FULL, FULL};
    Check.due("the longest of a block's first", Check.log(texts, 0, 0, 0, full), 104);
    Check.due("with the longest time", Check.log(texts, 0, 0, Long.MAX_VALUE, full), 216);
    Check.due("one block", texts.size(), 0);
    Check.due("216 and 24 are too many", Check.log(texts, 0, 0, Long.MAX_VALUE, FULL, "", "", "", "", ""), 24);
    Check.due("one block", texts.size(), 256);
    Counted numbers = withSite("{d}{d}{d}{d}{d}{d}");
    Check.due("the longest of numbers", Check.log(numbers, 0, 0, 0, 100, 100, 100, 100, 100, 100), 32);
  }

  /** The file has 24 blocks; writer 1's own has 238 bytes, the last of them at time 5, and writer 2's has 2. */
  private static Counted fullFile() {
    Counted log = withSite("");
    Check.site(log, "{t}");
    for (int k = 0; k < 119; k++) {
      log.log(1, 0, 5);
    }
    for (int k = 0; k < 24; k++) {
      log.log(0, 0, k);
      log.flush(0);
    }
    log.log(2, 0, 7);
    return log;
  }

  private static void refusedByAFullFile() {
    Check.sentence("UnsupportedOperationException when its block must go to the file, which has 24.");
    Counted almost = withSite("");
    for (int k = 0; k < 23; k++) {
      almost.log(0, 0, 0);
      almost.flush(0);
    }
    for (int k = 0; k < 119; k++) {
      almost.log(1, 0, 0);
    }
    Check.due("the 24th", almost.log(1, 0, 0), 2);
    Check.due("24 blocks", almost.size(), 24 * 256);
    Counted log = fullFile();
    Check.fails("no room", UnsupportedOperationException.class, () -> log.log(1, 0, 9));
    Check.fails("no room", UnsupportedOperationException.class, () -> log.log(1, 0, 5));
    Check.due("24 blocks still", log.size(), 24 * 256);
    Check.due("another's block has room", log.log(2, 0, 8), 4);
    Check.due("an empty one too", log.log(3, 0, 0), 2);
    log.rotate();
    Check.due("a new file", log.log(1, 0, 0), 2);
  }
}
