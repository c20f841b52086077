import java.util.NoSuchElementException;

/** Promises 8 (flush), 9 (rotate), 10 (crash), 11 (size), 12 (byteOf) and 13 (damage). */
public final class FileTest {
  public static void main(String[] args) {
    flush();
    flushOfAFullFile();
    rotate();
    crash();
    crashBetweenDurableAndEnd();
    crashRefused();
    bytes();
    Check.end();
  }

  private static EventLog plain() {
    EventLog log = new EventLog();
    log.site();
    return log;
  }

  private static void flush() {
    EventLog log = plain();
    Check.fails("writer 4", NoSuchElementException.class, () -> log.flush(4));
    Check.fails("writer -1", NoSuchElementException.class, () -> log.flush(-1));
    Check.due("no events", log.flush(0), 0);
    log.log(0, 0, 1);
    log.log(3, 0, 1);
    Check.due("another's events stay", log.flush(1), 0);
    Check.due("one block", log.flush(0), 1);
    Check.due("once", log.flush(0), 1);
    Check.due("two", log.flush(3), 2);
    Check.due("of writer 3", log.byteOf(257), 3);
    log.log(0, 0, 1);
    log.crash(1000);
    Check.fails("cut", IllegalStateException.class, () -> log.flush(0));
    Check.fails("no writer counts first", NoSuchElementException.class, () -> log.flush(4));
    log.rotate();
    Check.due("a new file", log.flush(0), 0);
  }

  private static void flushOfAFullFile() {
    EventLog log = plain();
    for (int k = 1; k <= 23; k++) {
      log.log(0, 0, 0);
      Check.due("blocks", log.flush(0), k);
    }
    for (int k = 0; k < 120; k++) {
      log.log(1, 0, 0);
    }
    Check.due("the 24th went by itself", log.size(), 24 * 256);
    Check.fails("no room", UnsupportedOperationException.class, () -> log.flush(1));
    Check.due("and it is not durable", log.crash(0), 23 * 256);
    EventLog other = plain();
    for (int k = 0; k < 23; k++) {
      other.log(0, 0, 0);
      other.flush(0);
    }
    for (int k = 0; k < 120; k++) {
      other.log(1, 0, 0);
    }
    Check.due("nothing to write needs no room", other.flush(2), 24);
    Check.due("all is durable", other.crash(0), 24 * 256);
  }

  private static void rotate() {
    EventLog log = plain();
    Check.site(log, "{t}");
    Check.log(log, 0, 1, 50, "much older");
    Check.log(log, 1, 1, 60, "old");
    log.log(2, 0, 70);
    log.flush(0);
    log.flush(1);
    log.damage(0, 1);
    log.open();
    log.rotate();
    Check.due("empty", log.size(), 0);
    Check.fails("no byte", IndexOutOfBoundsException.class, () -> log.byteOf(0));
    Check.due("the lines stay", log.count(), 1);
    Check.due("the lines stay", Check.line(log, 0), "old");
    Check.due("what was broken too", log.broken(), 1);
    Check.due("blocks are gone", log.flush(2), 0);
    Check.due("times are gone", log.log(1, 0, 0), 2);
    Check.due("one block", log.flush(1), 1);
    Check.due("numbered anew, zeros behind it", Check.bytes(log, 0, 20), "90 1 0 0 0 0 0 0 0 0 0 0 0 2 0 0 0 0 0 0");
    Check.due("nothing was durable before", log.crash(0), 256);
    Check.due("the lines stay", Check.line(log, 0), "old");
    log.rotate();
    Check.due("not cut", log.log(1, 0, 0), 2);
    Check.due("not durable", log.crash(0), 0);
    log.rotate();
    Check.due("open of nothing", log.open(), 0);
    Check.due("none broken", log.broken(), 0);
    log.log(0, 0, 0);
    log.flush(0);
    log.rotate();
    for (int k = 0; k < 120; k++) {
      log.log(0, 0, 0);
    }
    Check.due("a block that no flush made durable", log.size(), 256);
    Check.due("what was durable before is no measure", log.crash(10), 10);
  }

  private static void crash() {
    EventLog log = plain();
    log.log(0, 0, 1);
    log.flush(0);
    log.log(0, 0, 2);
    log.log(1, 0, 2);
    Check.due("what is durable is left", log.crash(0), 256);
    Check.due("size", log.size(), 256);
    Check.due("one line", log.open(), 1);
    Check.due("time", log.time(0), 1);
    log.rotate();
    Check.due("what the writers had is gone", log.flush(0), 0);
    Check.due("what the writers had is gone", log.flush(1), 0);
  }

  /** One durable block, and two more that are not. */
  private static EventLog partlyDurable() {
    EventLog log = plain();
    log.log(0, 0, 1);
    log.flush(0);
    for (int k = 0; k < 239; k++) {
      log.log(1, 0, k);
    }
    Check.due("three blocks", log.size(), 768);
    return log;
  }

  private static void crashBetweenDurableAndEnd() {
    int[] behind = {0, 1, 255, 256, 257, 511, 512, 513, Integer.MAX_VALUE};
    int[] left = {256, 257, 511, 512, 513, 767, 768, 768, 768};
    int[] lines = {1, 1, 1, 120, 120, 120, 239, 239, 239};
    int[] broken = {0, 1, 1, 0, 1, 1, 0, 0, 0};
    for (int k = 0; k < behind.length; k++) {
      EventLog log = partlyDurable();
      Check.due("crash(" + behind[k] + ")", log.crash(behind[k]), left[k]);
      Check.due("size", log.size(), left[k]);
      int end = left[k];
      Check.fails("the end", IndexOutOfBoundsException.class, () -> log.byteOf(end));
      Check.due("lines", log.open(), lines[k]);
      Check.due("broken", log.broken(), broken[k]);
    }
    EventLog log = partlyDurable();
    log.flush(3);
    Check.due("any writer's flush makes all durable", log.crash(0), 768);
  }

  private static void crashRefused() {
    EventLog log = plain();
    Check.fails("-1", IllegalArgumentException.class, () -> log.crash(-1));
    Check.due("changed nothing", log.log(0, 0, 3), 2);
    Check.due("an empty file", log.crash(5), 0);
    Check.fails("again", IllegalStateException.class, () -> log.crash(0));
    Check.fails("below 0 counts first", IllegalArgumentException.class, () -> log.crash(Integer.MIN_VALUE));
    Check.fails("cut", IllegalStateException.class, () -> log.log(0, 0, 3));
    log.rotate();
    Check.due("a new file can crash", log.crash(0), 0);
  }

  private static void bytes() {
    EventLog log = plain();
    log.log(0, 0, 1);
    Check.due("a block that is not in the file", log.size(), 0);
    log.flush(0);
    Check.fails("-1", IndexOutOfBoundsException.class, () -> log.byteOf(-1));
    Check.fails("256", IndexOutOfBoundsException.class, () -> log.byteOf(256));
    int[] wrong = {-1, 256, Integer.MIN_VALUE, Integer.MAX_VALUE};
    for (int place : wrong) {
      Check.fails("damage(" + place + ")", IndexOutOfBoundsException.class, () -> {
        log.damage(place, 0);
        return 0;
      });
    }
    log.damage(255, 0x1FF);
    Check.due("the lowest eight bits", log.byteOf(255), 255);
    log.damage(0, -2);
    Check.due("the lowest eight bits", log.byteOf(0), 254);
    log.damage(100, 256);
    Check.due("the lowest eight bits", log.byteOf(100), 0);
    Check.due("its neighbours are whole", Check.bytes(log, 1, 3), "0 0 0");
    log.log(0, 0, 1);
    log.flush(0);
    log.log(0, 0, 1);
    log.crash(0);
    log.damage(300, 7);
    Check.due("a cut file can be damaged", log.byteOf(300), 7);
  }
}
