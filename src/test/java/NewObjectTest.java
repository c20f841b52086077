import java.util.NoSuchElementException;

/** Promise 1 (a new object) and promise 2 (type). */
public final class NewObjectTest {
  public static void main(String[] args) {
    newObject();
    type();
    textIsEmptiedByEveryTaker();
    Check.end();
  }

  private static void newObject() {
    EventLog log = new EventLog();
    Check.fails("no site", NoSuchElementException.class, () -> log.log(0, 0, 0));
    Check.due("size", log.size(), 0);
    Check.due("broken", log.broken(), 0);
    Check.due("clear", log.clear(), 0);
    Check.due("count", log.count(), 0);
    Check.due("find", log.find(0), -1);
    Check.due("distinct", log.distinct(0), 0);
    Check.fails("no line", NoSuchElementException.class, () -> log.time(0));
    Check.fails("empty file", IndexOutOfBoundsException.class, () -> log.byteOf(0));
    Check.due("open", log.open(), 0);
    Check.due("broken", log.broken(), 0);
    Check.due("the text is empty, and a format", log.site(), 0);
    Check.due("the arguments are empty", log.log(0, 0, 0), 2);
    log.rotate();
    Check.due("tables name nothing", Check.site(log, "{e0}"), 1);
    for (int code = 0; code < 32; code++) {
      Check.log(log, 0, 1, code, code);
    }
    log.flush(0);
    Check.due("open", log.open(), 32);
    for (int code = 0; code < 32; code++) {
      Check.due("a number", Check.line(log, code), Integer.toString(code));
    }
  }

  private static void type() {
    EventLog log = new EventLog();
    Check.due("n 0", log.type(65, 0) ? 1 : 0, 0);
    Check.due("n -1", log.type(65, -1) ? 1 : 0, 0);
    Check.due("n 9", log.type(65, 9) ? 1 : 0, 0);
    Check.due("least int", log.type(65, Integer.MIN_VALUE) ? 1 : 0, 0);
    Check.due("greatest int", log.type(65, Integer.MAX_VALUE) ? 1 : 0, 0);
    Check.site(log, "{t}");
    Check.due("n 8", log.type(0xFF80_7F41_0042_4344L, 8) ? 1 : 0, 1);
    Check.due("n 3, the rest is left out", log.type(0xFFFF_FFFF_FF61_6263L, 3) ? 1 : 0, 1);
    log.text();
    Check.due("packed", log.log(0, 0, 0), 14);
    log.flush(0);
    Check.due("the lowest first", Check.bytes(log, 16, 12), "11 68 67 66 0 65 127 128 255 99 98 97");
    for (int k = 0; k < 24; k++) {
      Check.due("to 192", log.type(0, 8) ? 1 : 0, 1);
    }
    Check.due("to 193", log.type(0, 1) ? 1 : 0, 1);
    Check.due("201 are too many", log.type(0, 8) ? 1 : 0, 0);
    Check.due("200 are not", log.type(0, 7) ? 1 : 0, 1);
    Check.due("one more is", log.type(0, 1) ? 1 : 0, 0);
    Check.due("the text is as it was", log.site(), -1);
    Check.due("and empty now", log.type(0, 8) ? 1 : 0, 1);
  }

  private static void textIsEmptiedByEveryTaker() {
    EventLog log = new EventLog();
    Check.type(log, "}");
    Check.due("a fault", log.site(), -2);
    Check.due("emptied by site", log.site(), 0);
    Check.type(log, "}");
    Check.fails("no table", NoSuchElementException.class, () -> {
      log.name(9, 0);
      return 0;
    });
    Check.due("emptied by a name that failed", log.site(), 0);
    Check.type(log, "}");
    log.name(0, 0);
    Check.due("emptied by name", log.site(), 0);
    Check.type(log, "}");
    log.text();
    Check.due("emptied by text", log.site(), 0);
    Check.type(log, "}}}}}}}}}}}}}}}}}");
    Check.fails("17 bytes", IllegalArgumentException.class, log::text);
    Check.due("emptied by a text that failed", log.site(), 0);
    Check.type(log, "}");
    log.search();
    Check.due("emptied by search", log.site(), 0);
    Check.type(log, "}}}}}}}}}}}}}}}}}}}}}}}}}");
    Check.fails("25 bytes", IllegalArgumentException.class, log::search);
    Check.due("emptied by a search that failed", log.site(), 0);
  }
}
