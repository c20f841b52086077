import java.util.NoSuchElementException;

/** Promise 5 (arg) and promise 6 (text). */
public final class ArgumentTest {
  public static void main(String[] args) {
    counts();
    texts();
    logTakesThem();
    Check.end();
  }

  private static void counts() {
    EventLog log = new EventLog();
    for (int k = 1; k <= 5; k++) {
      Check.due("arg", log.arg(k), k);
    }
    Check.due("an empty text", log.text(), 6);
    Check.fails("a seventh number", UnsupportedOperationException.class, () -> log.arg(7));
    Check.fails("a seventh text", UnsupportedOperationException.class, log::text);
    Check.type(log, "seventeen bytes..");
    Check.fails("too long counts first", IllegalArgumentException.class, log::text);
    Check.site(log, "{d}{d}{d}{d}{d}{t}");
    Check.due("the six are still there", log.log(0, 0, 0), 8);
    Check.due("and gone now", log.arg(0), 1);
  }

  private static void texts() {
    EventLog log = new EventLog();
    Check.type(log, "17 bytes are many");
    Check.fails("17 bytes", IllegalArgumentException.class, log::text);
    Check.type(log, "16 bytes fit in.");
    Check.due("16 bytes", log.text(), 1);
    log.type(0xFF80_7F1F_0A00_0102L, 8);
    Check.due("any bytes", log.text(), 2);
    Check.due("none", log.text(), 3);
    Check.site(log, "{t}{t}{t}");
    Check.due("packed with their sizes", log.log(3, 0, 0), 2 + 17 + 9 + 1);
    log.flush(3);
    Check.due("the second", Check.bytes(log, 16 + 17, 10), "8 2 1 0 10 31 127 128 255 0");
    log.open();
    Check.due("printed", Check.line(log, 0), "16 bytes fit in.\u0002\u0001\0\n\u001f\u007f\u0080\u00ff");
  }

  private static void logTakesThem() {
    EventLog log = new EventLog();
    Check.site(log, "{d}");
    log.arg(1);
    Check.fails("no writer", NoSuchElementException.class, () -> log.log(4, 0, 0));
    Check.due("taken by a log that failed", log.arg(2), 1);
    Check.fails("a time below 0", IllegalArgumentException.class, () -> log.log(0, 0, -1));
    Check.due("taken by a log that failed", log.arg(2), 1);
    log.crash(0);
    Check.fails("cut", IllegalStateException.class, () -> log.log(0, 0, 0));
    Check.due("taken by a log that failed", log.arg(2), 1);
    log.rotate();
    Check.due("rotate leaves them", log.arg(2), 2);
  }
}
