import java.util.NoSuchElementException;

/** Promise 7 (log): packing, blocks, and what is refused. */
public final class LogTest {
  public static void main(String[] args) {
    numbersByTheirSteps();
    lastsAreOfTheSiteAndTheBlock();
    times();
    block();
    fullBlock();
    refused();
    fullFile();
    Check.end();
  }

  private static void numbersByTheirSteps() {
    EventLog log = new EventLog();
    Check.site(log, "{d}");
    int[] numbers = {0, 60, 0, 61, 0, -60, 0, -61, 1, 2, 1, Integer.MIN_VALUE, Integer.MAX_VALUE, Integer.MAX_VALUE - 60, Integer.MIN_VALUE};
    String[] packed = {
      "0", "124", "4", "255 0 0 0 61", "255 0 0 0 0", "4", "124", "255 255 255 255 195", "255 0 0 0 1", "65", "63",
      "255 128 0 0 0", "63", "4", "255 128 0 0 0"
    };
    int used = 0;
    StringBuilder due = new StringBuilder();
    for (int k = 0; k < numbers.length; k++) {
      used += 2 + packed[k].split(" ").length;
      Check.due("log of " + numbers[k], Check.log(log, 0, 0, 0, numbers[k]), used);
      due.append(k == 0 ? "" : " ").append("0 0 ").append(packed[k]);
    }
    log.flush(0);
    Check.due("packed", Check.bytes(log, 14, used), due.toString());
    log.open();
    for (int k = 0; k < numbers.length; k++) {
      Check.due("read", log.about(k, 0), numbers[k]);
    }
  }

  private static void lastsAreOfTheSiteAndTheBlock() {
    EventLog log = new EventLog();
    Check.site(log, "{d}{t}{u}");
    Check.site(log, "{x}");
    Check.log(log, 2, 0, 9, 10, "ab", 20);
    Check.log(log, 2, 1, 9, 11);
    Check.log(log, 2, 0, 9, 12, "", 20);
    Check.log(log, 1, 0, 9, 12, "", 20);
    log.flush(2);
    Check.due("events", Check.bytes(log, 14, 15), "0 0 74 2 97 98 84 1 0 75 0 0 66 0 0");
    Check.due("nothing is left of the block before", Check.log(log, 2, 0, 9, 12, "", 20), 5);
    log.flush(2);
    log.flush(1);
    Check.due("the next block", Check.bytes(log, 256 + 14, 6), "0 0 76 0 84 0");
    Check.due("another writer", Check.bytes(log, 512 + 14, 6), "0 0 76 0 84 0");
  }

  private static void times() {
    EventLog log = new EventLog();
    for (int k = 0; k < 40; k++) {
      Check.site(log, "s" + k);
    }
    Check.due("the first has no difference", log.log(0, 39, 1000), 2);
    Check.due("127", log.log(0, 0, 1127), 4);
    Check.due("128", log.log(0, 0, 1255), 7);
    Check.due("16383", log.log(0, 0, 1255 + 16383), 10);
    Check.due("16384", log.log(0, 0, 1255 + 16383 + 16384), 14);
    Check.due("the greatest", log.log(0, 0, Long.MAX_VALUE), 24);
    Check.due("the same once more", log.log(0, 0, Long.MAX_VALUE), 26);
    log.flush(0);
    Check.due("times", Check.bytes(log, 14, 14), "39 0 0 127 0 128 1 0 255 127 0 128 128 1");
    Check.due("the first time", Check.bytes(log, 4, 8), "0 0 0 0 0 0 3 232");
    log.open();
    Check.due("read", log.time(4), 1255 + 16383 + 16384);
    Check.due("read", log.time(6), Long.MAX_VALUE);
    EventLog far = new EventLog();
    far.site();
    far.log(0, 0, 0);
    Check.due("nine bytes", far.log(0, 0, Long.MAX_VALUE), 2 + 10);
    far.flush(0);
    Check.due("nine bytes", Check.bytes(far, 17, 9), "255 255 255 255 255 255 255 255 127");
    far.open();
    Check.due("read", far.time(1), Long.MAX_VALUE);
  }

  private static void block() {
    EventLog log = new EventLog();
    Check.site(log, "a{d}");
    Check.log(log, 3, 0, 0x0102030405060708L, -2);
    log.flush(3);
    Check.log(log, 3, 0, 0x7FFFFFFFFFFFFFFFL, 5);
    log.flush(3);
    Check.due("size", log.size(), 512);
    Check.due("the head", Check.bytes(log, 0, 17), "90 3 0 0 1 2 3 4 5 6 7 8 0 3 0 0 62");
    Check.due("the second's head", Check.bytes(log, 256, 17), "90 3 0 1 127 255 255 255 255 255 255 255 0 3 0 0 69");
    for (int block = 0; block < 2; block++) {
      int sum = 0;
      for (int k = 0; k < 252; k++) {
        int b = log.byteOf(256 * block + k);
        sum = sum * 31 + b;
        Check.due("zeros behind the events", k < 17 ? 0 : b, 0);
      }
      for (int k = 0; k < 4; k++) {
        Check.due("the sum", log.byteOf(256 * block + 252 + k), sum >>> (24 - 8 * k) & 255);
      }
    }
  }

  private static void fullBlock() {
    EventLog log = new EventLog();
    log.site();
    for (int k = 1; k <= 119; k++) {
      Check.due("two bytes each", log.log(1, 0, 5), 2 * k);
    }
    Check.due("238 fit in", log.size(), 0);
    Check.due("the next one is alone", log.log(1, 0, 300), 2);
    Check.due("the block went to the file", log.size(), 256);
    Check.due("full", Check.bytes(log, 12, 2), "0 238");
    log.flush(1);
    Check.due("numbered", Check.bytes(log, 256, 16), "90 1 0 1 0 0 0 0 0 0 1 44 0 2 0 0");
    EventLog texts = new EventLog();
    Check.site(texts, "{t}{t}{t}{t}{t}{t}");
    String text = "sixteen bytes...";
    Check.due("the longest", Check.log(texts, 0, 0, 0, text, text, text, text, text, text), 104);
    Check.due("with the longest time", Check.log(texts, 0, 0, Long.MAX_VALUE, text, text, text, text, text, text), 216);
    Check.due("216 and 24 are too many", Check.log(texts, 0, 0, Long.MAX_VALUE, text, "", "", "", "", ""), 24);
    Check.due("one block", texts.size(), 256);
    EventLog exact = new EventLog();
    Check.site(exact, "{t}");
    for (int k = 0; k < 12; k++) {
      Check.log(exact, 0, 0, 0, text);
    }
    Check.due("228 and 10", Check.log(exact, 0, 0, 0, "7 bytes"), 238);
    EventLog over = new EventLog();
    Check.site(over, "{t}");
    for (int k = 0; k < 12; k++) {
      Check.log(over, 0, 0, 0, text);
    }
    Check.due("228 and 11", Check.log(over, 0, 0, 0, "8 bytes."), 11);
    Check.due("one block", over.size(), 256);
  }

  private static void refused() {
    EventLog log = new EventLog();
    Check.site(log, "{d}{t}");
    Check.fails("writer 4", NoSuchElementException.class, () -> Check.log(log, 4, 0, 0, 1, ""));
    Check.fails("writer -1", NoSuchElementException.class, () -> Check.log(log, -1, 0, 0, 1, ""));
    Check.fails("site 1", NoSuchElementException.class, () -> Check.log(log, 0, 1, 0, 1, ""));
    Check.fails("site -1", NoSuchElementException.class, () -> Check.log(log, 0, -1, 0, 1, ""));
    Check.fails("none of them right", NoSuchElementException.class, () -> Check.log(log, 0, 40, -1));
    Check.fails("too few", IllegalArgumentException.class, () -> Check.log(log, 0, 0, 0, 1));
    Check.fails("none", IllegalArgumentException.class, () -> Check.log(log, 0, 0, 0));
    Check.fails("too many", IllegalArgumentException.class, () -> Check.log(log, 0, 0, 0, 1, "", 1));
    Check.fails("the wrong way round", IllegalArgumentException.class, () -> Check.log(log, 0, 0, 0, "", 1));
    Check.fails("two texts", IllegalArgumentException.class, () -> Check.log(log, 0, 0, 0, "", ""));
    Check.fails("two numbers", IllegalArgumentException.class, () -> Check.log(log, 0, 0, 0, 1, 0));
    Check.fails("time -1", IllegalArgumentException.class, () -> Check.log(log, 0, 0, -1, 1, ""));
    Check.fails("the least time", IllegalArgumentException.class, () -> Check.log(log, 0, 0, Long.MIN_VALUE, 1, ""));
    Check.due("right", Check.log(log, 0, 0, 7, 1, ""), 4);
    Check.fails("before the last", IllegalArgumentException.class, () -> Check.log(log, 0, 0, 6, 1, ""));
    Check.due("another writer's last is its own", Check.log(log, 1, 0, 6, 1, ""), 4);
    log.flush(0);
    Check.fails("also behind a flush", IllegalArgumentException.class, () -> Check.log(log, 0, 0, 6, 1, ""));
    Check.due("the same time", Check.log(log, 0, 0, 7, 1, ""), 4);
    log.rotate();
    Check.due("a new file has no last", Check.log(log, 0, 0, 0, 1, ""), 4);
    log.crash(0);
    Check.fails("cut", IllegalStateException.class, () -> Check.log(log, 0, 0, 0));
    Check.fails("no writer counts first", NoSuchElementException.class, () -> Check.log(log, 4, 0, 0, 1, ""));
    Check.fails("no site counts first", NoSuchElementException.class, () -> Check.log(log, 0, 1, 0, 1, ""));
  }

  private static void fullFile() {
    EventLog log = new EventLog();
    Check.site(log, "{t}{t}{t}{t}{t}{t}");
    log.site();
    for (int k = 0; k < 23; k++) {
      log.log(0, 1, k);
      log.flush(0);
    }
    for (int k = 0; k < 119; k++) {
      log.log(1, 1, 5);
    }
    log.log(2, 1, 7);
    log.flush(2);
    Check.due("24 blocks", log.size(), 24 * 256);
    Check.fails("no room", UnsupportedOperationException.class, () -> log.log(1, 1, 9));
    Check.fails("wrong arguments count first", IllegalArgumentException.class, () -> log.log(1, 0, 9));
    Check.due("another's block has room", log.log(2, 1, 8), 2);
    Check.fails("it changed nothing", UnsupportedOperationException.class, () -> log.log(1, 1, 6));
    log.rotate();
    Check.due("a new file", log.log(1, 1, 0), 2);
  }
}
