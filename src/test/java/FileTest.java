import java.util.NoSuchElementException;

/** Promises 8 (flush), 9 (rotate), 10 (crash), 11 (size), 12 (byteOf) and 13 (damage). */
public final class FileTest {
  private static final int[] NO_WRITERS = {-1, 4, Integer.MIN_VALUE, Integer.MAX_VALUE};
  private static final String CUT = "IllegalStateException when the file was cut by a crash;";

  public static void main(String[] args) {
    flushOfWriters();
    flushOfNothing();
    flushMakesAllDurable();
    flushWhenThereIsNoRoom();
    flushOfNothingNeedsNoRoom();
    blocksAtMost();
    rotatedFileIsEmpty();
    rotatedFileIsNotCut();
    rotatedFileHasNoEvents();
    rotatedFileHasNoBytesOfBefore();
    rotatedFileIsNotDurable();
    linesStay();
    crashLeavesWhatIsDurable();
    crashBetweenDurableAndEnd();
    crashOfAnEmptyFile();
    crashOfAFullFile();
    crashBelowZero();
    cut();
    cutThatTookNothing();
    size();
    byteOf();
    damage();
    damageOfACutFile();
    Check.end();
  }

  private static Counted plain() {
    Counted log = new Counted();
    log.site();
    return log;
  }

  private static void write(Counted log, int writer, int blocks) {
    for (int k = 0; k < blocks; k++) {
      log.log(writer, 0, 0);
      log.flush(writer);
    }
  }

  /** Sends a full block to the file by an event more, without a flush: this writer has one event left in its block then. */
  private static void overflow(Counted log, int writer) {
    for (int k = 0; k < 120; k++) {
      log.log(writer, 0, 0);
    }
  }

  private static void flushOfWriters() {
    Check.sentence("A writer's block goes to the file, if it has events; and all that is in the file is durable: how many blocks it has.");
    for (int writer = 0; writer < 4; writer++) {
      Counted log = plain();
      log.log(writer, 0, 1);
      Check.due("flush(" + writer + ")", log.flush(writer), 1);
      Check.due("its block", log.byteOf(1), writer);
    }
    for (int writer : NO_WRITERS) {
      Check.fails("flush(" + writer + ")", NoSuchElementException.class, () -> plain().flush(writer));
    }
    Counted log = plain();
    for (int blocks = 1; blocks <= 24; blocks++) {
      log.log(blocks % 4, 0, 0);
      Check.due("blocks", log.flush(blocks % 4), blocks);
    }
  }

  private static void flushOfNothing() {
    Counted log = plain();
    Check.due("no events", log.flush(0), 0);
    log.log(3, 0, 1);
    Check.due("another's events stay", log.flush(1), 0);
    Check.due("size", log.size(), 0);
    Check.due("one block", log.flush(3), 1);
    Check.due("once", log.flush(3), 1);
    Check.due("size", log.size(), 256);
    Check.due("its block is empty now", log.log(3, 0, 1), 2);
  }

  private static void flushMakesAllDurable() {
    Counted log = plain();
    overflow(log, 1);
    overflow(log, 2);
    Check.due("none is durable", log.size(), 512);
    Check.due("another writer's flush, of nothing", log.flush(3), 2);
    Check.due("all is durable", log.crash(0), 512);
    Counted none = plain();
    overflow(none, 1);
    Check.due("without a flush", none.crash(0), 0);
    Counted first = plain();
    write(first, 0, 1);
    overflow(first, 1);
    Check.due("what came behind the flush is not", first.crash(0), 256);
  }

  private static void flushWhenThereIsNoRoom() {
    Check.sentence("IllegalStateException as for log; UnsupportedOperationException when there is no room.");
    Counted log = plain();
    write(log, 0, 23);
    overflow(log, 1);
    Check.due("the 24th went by itself", log.size(), 24 * 256);
    Check.fails("no room", UnsupportedOperationException.class, () -> log.flush(1));
    Check.due("size", log.size(), 24 * 256);
    Check.due("its block has its event still", log.log(1, 0, 0), 4);
    Check.fails("no room", UnsupportedOperationException.class, () -> log.flush(1));
    Check.due("and the 24th is not durable", log.crash(0), 23 * 256);
    Counted room = plain();
    write(room, 0, 23);
    room.log(1, 0, 0);
    Check.due("room for the 24th", room.flush(1), 24);
    room.log(1, 0, 0);
    Check.fails("none for the 25th", UnsupportedOperationException.class, () -> room.flush(1));
  }

  private static void flushOfNothingNeedsNoRoom() {
    Counted log = plain();
    write(log, 0, 23);
    overflow(log, 1);
    Check.due("nothing to write", log.flush(2), 24);
    Check.due("all is durable", log.crash(0), 24 * 256);
  }

  private static void blocksAtMost() {
    Check.sentence("The file has 24 blocks at most.");
    Counted log = plain();
    for (int k = 0; k < 22; k++) {
      write(log, k % 4, 1);
    }
    overflow(log, 0);
    Check.due("23", log.size(), 23 * 256);
    log.log(1, 0, 0);
    Check.due("24", log.flush(1), 24);
    Check.fails("no 25th by a flush", UnsupportedOperationException.class, () -> log.flush(0));
    for (int k = 1; k < 119; k++) {
      log.log(0, 0, 0);
    }
    Check.fails("nor by an event", UnsupportedOperationException.class, () -> log.log(0, 0, 0));
    Check.due("24 still", log.size(), 24 * 256);
    Check.due("119 of one, 23 more", log.open(), 119 + 23);
    Check.due("each is whole", log.broken(), 0);
  }

  private static void rotatedFileIsEmpty() {
    Check.sentence("A new file, which is empty (not cut; writers have had no event in it); what writers had in their blocks is gone; THE LINES stay.");
    Counted log = plain();
    write(log, 0, 24);
    log.rotate();
    Check.due("size", log.size(), 0);
    Check.fails("no byte", IndexOutOfBoundsException.class, () -> log.byteOf(0));
    Check.refuses("no byte", IndexOutOfBoundsException.class, log, x -> x.damage(0, 0));
    Check.due("blocks", log.flush(0), 0);
    write(log, 0, 23);
    log.log(0, 0, 0);
    Check.due("24 again", log.flush(0), 24);
    log.rotate();
    log.rotate();
    Check.due("twice", log.size(), 0);
    Check.due("nothing to read", log.open(), 0);
    Check.due("nothing broken", log.broken(), 0);
    Counted fresh = new Counted();
    fresh.rotate();
    Check.due("a new object's", fresh.size(), 0);
  }

  private static void rotatedFileIsNotCut() {
    Counted log = plain();
    log.crash(0);
    log.rotate();
    Check.due("log", log.log(0, 0, 0), 2);
    Check.due("flush", log.flush(0), 1);
    Check.due("crash", log.crash(0), 256);
  }

  private static void rotatedFileHasNoEvents() {
    Counted log = plain();
    log.log(0, 0, 50);
    log.log(1, 0, 60);
    log.flush(1);
    log.log(2, 0, 70);
    log.log(3, 0, Long.MAX_VALUE);
    log.rotate();
    for (int writer = 0; writer < 4; writer++) {
      Check.due("blocks are empty", log.flush(writer), 0);
    }
    for (int writer = 0; writer < 4; writer++) {
      Check.due("any time is right", log.log(writer, 0, 0), 2);
    }
    log.flush(1);
    new Block(1, 0, 0, 0, 0).isInFile("numbered anew", log, 0);
  }

  private static void rotatedFileHasNoBytesOfBefore() {
    Counted log = plain();
    Check.site(log, "{t}");
    Check.log(log, 0, 1, 50, "a longer block");
    log.flush(0);
    log.damage(200, 77);
    log.rotate();
    log.log(1, 0, 60);
    log.flush(1);
    new Block(1, 0, 60, 0, 0).isInFile("nothing is left of what was there", log, 0);
  }

  private static void rotatedFileIsNotDurable() {
    Counted log = plain();
    write(log, 0, 2);
    log.rotate();
    Check.due("nothing", log.crash(0), 0);
    log.rotate();
    write(log, 0, 2);
    log.rotate();
    overflow(log, 0);
    Check.due("a block that no flush made durable", log.size(), 256);
    Check.due("what was durable before is no measure", log.crash(10), 10);
  }

  private static void linesStay() {
    Counted log = plain();
    Check.site(log, "{t}");
    Check.log(log, 0, 1, 50, "much older");
    log.flush(0);
    Check.log(log, 1, 1, 60, "old");
    log.flush(1);
    log.damage(0, 1);
    Check.due("open", log.open(), 1);
    log.rotate();
    Check.due("as many", log.count(), 1);
    Check.due("time", log.time(0), 60);
    Check.due("writer", log.about(0, -2), 1);
    Check.due("the text", Check.line(log, 0), "old");
    Check.due("what was broken too", log.broken(), 1);
    write(log, 0, 2);
    Check.due("behind new blocks", Check.line(log, 0), "old");
    Check.due("the next open", log.open(), 2);
    Check.due("none broken", log.broken(), 0);
  }

  private static void crashLeavesWhatIsDurable() {
    Check.sentence("A crash: what writers have in their blocks is gone; of the file what is durable is left, and n bytes behind that, as far as there are any: how many bytes the file has.");
    Counted log = plain();
    log.log(0, 0, 1);
    log.flush(0);
    log.log(0, 0, 2);
    log.log(1, 0, 2);
    Check.due("what is durable is left", log.crash(0), 256);
    Check.due("size", log.size(), 256);
    Check.due("one line", log.open(), 1);
    Check.due("time", log.time(0), 1);
    log.rotate();
    Check.due("what the writers had is gone", log.flush(0), 0);
    Check.due("what the writers had is gone", log.flush(1), 0);
  }

  /** One durable block, and two more that are not. */
  private static Counted partlyDurable() {
    Counted log = plain();
    write(log, 0, 1);
    for (int k = 0; k < 239; k++) {
      log.log(1, 0, k);
    }
    Check.due("three blocks", log.size(), 768);
    return log;
  }

  private static void crashBetweenDurableAndEnd() {
    int[] behind = {0, 1, 255, 256, 257, 511, 512, 513, Integer.MAX_VALUE - 256, Integer.MAX_VALUE};
    int[] left = {256, 257, 511, 512, 513, 767, 768, 768, 768, 768};
    int[] lines = {1, 1, 1, 120, 120, 120, 239, 239, 239, 239};
    int[] broken = {0, 1, 1, 0, 1, 1, 0, 0, 0, 0};
    for (int k = 0; k < behind.length; k++) {
      Counted log = partlyDurable();
      Check.due("crash(" + behind[k] + ")", log.crash(behind[k]), left[k]);
      Check.due("size", log.size(), left[k]);
      int end = left[k];
      Check.fails("the end", IndexOutOfBoundsException.class, () -> log.byteOf(end));
      Check.due("before the end", Check.outcome(() -> log.byteOf(end - 1)).matches("[0-9]+") ? 1 : 0, 1);
      Check.due("lines", log.open(), lines[k]);
      Check.due("broken", log.broken(), broken[k]);
    }
  }

  private static void crashOfAnEmptyFile() {
    int[] behind = {0, 1, 256, Integer.MAX_VALUE};
    for (int n : behind) {
      Check.due("crash(" + n + ")", plain().crash(n), 0);
      Counted log = plain();
      log.log(0, 0, 0);
      Check.due("an event that is in no file, crash(" + n + ")", log.crash(n), 0);
    }
  }

  private static void crashOfAFullFile() {
    Counted log = plain();
    write(log, 0, 24);
    Check.due("all is durable", log.crash(0), 24 * 256);
    Counted more = plain();
    write(more, 0, 23);
    overflow(more, 1);
    Check.due("the 24th but for a byte", more.crash(255), 24 * 256 - 1);
    Check.due("23 lines", more.open(), 23);
    Check.due("what was left at the end", more.broken(), 1);
  }

  private static void crashBelowZero() {
    Check.sentence("IllegalArgumentException when n is below 0; IllegalStateException as for log.");
    int[] wrong = {-1, -256, Integer.MIN_VALUE};
    for (int n : wrong) {
      Counted log = plain();
      log.log(0, 0, 3);
      Check.fails("crash(" + n + ")", IllegalArgumentException.class, () -> log.crash(n));
      Check.due("the block is as it was", log.log(0, 0, 3), 4);
      Check.due("not cut", log.flush(0), 1);
      Check.due("0 is right", log.crash(0), 256);
    }
  }

  private static void isCut(Counted log) {
    Check.fails("log", IllegalStateException.class, () -> log.log(0, 0, 9));
    Check.fails("flush", IllegalStateException.class, () -> log.flush(0));
    Check.fails("flush of another", IllegalStateException.class, () -> log.flush(3));
    Check.fails("crash", IllegalStateException.class, () -> log.crash(0));
    Check.fails("crash", IllegalStateException.class, () -> log.crash(Integer.MAX_VALUE));
  }

  private static void cut() {
    Check.sentence(CUT);
    Counted log = partlyDurable();
    log.crash(100);
    isCut(log);
    Check.due("size", log.size(), 356);
    log.open();
    log.damage(0, 90);
    isCut(log);
    Check.due("size", log.size(), 356);
    log.rotate();
    Check.due("until a new file", log.log(0, 0, 0), 2);
  }

  /** Every crash cuts the file, also where it has no byte to take away. */
  private static void cutThatTookNothing() {
    Counted empty = plain();
    empty.crash(0);
    isCut(empty);
    Counted durable = plain();
    write(durable, 0, 1);
    durable.crash(0);
    isCut(durable);
    Counted whole = plain();
    overflow(whole, 0);
    Check.due("all bytes are left", whole.crash(256), 256);
    isCut(whole);
  }

  private static void size() {
    Check.sentence("How many bytes the file has.");
    Counted log = plain();
    Check.due("none", log.size(), 0);
    log.log(0, 0, 1);
    Check.due("a block that is not in the file", log.size(), 0);
    log.flush(0);
    Check.due("one block", log.size(), 256);
    write(log, 1, 22);
    Check.due("23", log.size(), 23 * 256);
    write(log, 2, 1);
    Check.due("24", log.size(), 24 * 256);
  }

  private static void byteOf() {
    Check.sentence("Byte i of the file. IndexOutOfBoundsException.");
    Counted log = plain();
    write(log, 3, 2);
    Check.due("the first", log.byteOf(0), 90);
    Check.due("the second block's number", log.byteOf(259), 1);
    Check.due("the last", log.byteOf(511), new Block(3, 1, 0, 0, 0).at(255));
    int[] wrong = {-1, 512, 513, Integer.MIN_VALUE, Integer.MAX_VALUE};
    for (int place : wrong) {
      Check.fails("byteOf(" + place + ")", IndexOutOfBoundsException.class, () -> log.byteOf(place));
    }
    Counted full = plain();
    write(full, 0, 24);
    Check.due("the last of all", full.byteOf(24 * 256 - 1), new Block(0, 23, 0, 0, 0).at(255));
    Check.fails("behind it", IndexOutOfBoundsException.class, () -> full.byteOf(24 * 256));
  }

  private static void damage() {
    Check.sentence("Byte i of the file becomes the lowest eight bits of b. IndexOutOfBoundsException.");
    Counted log = plain();
    write(log, 0, 1);
    int[] wrong = {-1, 256, 257, Integer.MIN_VALUE, Integer.MAX_VALUE};
    for (int place : wrong) {
      Check.refuses("damage(" + place + ")", IndexOutOfBoundsException.class, log, x -> x.damage(place, 1));
    }
    new Block(0, 0, 0, 0, 0).isInFile("nothing changed", log, 0);
    int[] given = {0, 1, 127, 128, 255, 256, 257, 511, -1, -2, -128, -256, Integer.MIN_VALUE, Integer.MAX_VALUE};
    int[] due = {0, 1, 127, 128, 255, 0, 1, 255, 255, 254, 128, 0, 0, 255};
    int[] places = {0, 100, 255};
    for (int place : places) {
      for (int k = 0; k < given.length; k++) {
        log.damage(place, given[k]);
        Check.due("damage(" + place + ", " + given[k] + ")", log.byteOf(place), due[k]);
      }
    }
    Check.due("its neighbours are as they were", Check.bytes(log, 99, 3), "0 255 0");
    Check.due("size", log.size(), 256);
  }

  private static void damageOfACutFile() {
    Counted log = partlyDurable();
    log.crash(10);
    log.damage(265, 7);
    Check.due("the last that is left", log.byteOf(265), 7);
    Check.refuses("behind it", IndexOutOfBoundsException.class, log, x -> x.damage(266, 7));
    log.damage(0, 0);
    Check.due("the only whole one", log.open(), 0);
    Check.due("both", log.broken(), 2);
  }
}
