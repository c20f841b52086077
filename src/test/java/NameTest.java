import java.util.NoSuchElementException;

/** Promise 4 (name). */
public final class NameTest {
  public static void main(String[] args) {
    namesAreUsedAsTheyAreWhenAsked();
    wrongNames();
    corners();
    Check.end();
  }

  private static void namesAreUsedAsTheyAreWhenAsked() {
    EventLog log = new EventLog();
    Check.site(log, "{e1}|{e2}");
    Check.log(log, 0, 0, 0, 3, 3);
    log.flush(0);
    log.open();
    Check.due("no names yet", Check.line(log, 0), "3|3");
    Check.name(log, 1, 3, "stop");
    Check.due("named behind open()", Check.line(log, 0), "stop|3");
    Check.name(log, 2, 3, "twelve bytes");
    Check.due("another table", Check.line(log, 0), "stop|twelve bytes");
    Check.name(log, 2, 3, "x");
    Check.due("instead of what it had", Check.line(log, 0), "stop|x");
    Check.search(log, "stop");
    Check.due("found by its name", log.count(), 1);
    Check.name(log, 1, 3, " ~");
    Check.due("not by an old one", log.count(), 0);
  }

  private static void wrong(EventLog log, int table, int code, String text, Class<? extends RuntimeException> due) {
    Check.type(log, text);
    Check.fails("name(" + table + ", " + code + ") of '" + text + "'", due, () -> {
      log.name(table, code);
      return 0;
    });
  }

  private static void wrongNames() {
    EventLog log = new EventLog();
    Check.name(log, 0, 0, "kept");
    wrong(log, 0, 0, "", IllegalArgumentException.class);
    wrong(log, 0, 0, "thirteen byte", IllegalArgumentException.class);
    wrong(log, 0, 0, "a\u001fb", IllegalArgumentException.class);
    wrong(log, 0, 0, "ab\u007f", IllegalArgumentException.class);
    wrong(log, 0, 0, "\u00ff", IllegalArgumentException.class);
    wrong(log, 8, 0, "a", NoSuchElementException.class);
    wrong(log, -1, 0, "a", NoSuchElementException.class);
    wrong(log, 0, 32, "a", NoSuchElementException.class);
    wrong(log, 0, -1, "a", NoSuchElementException.class);
    wrong(log, 8, 0, "", NoSuchElementException.class);
    wrong(log, Integer.MAX_VALUE, Integer.MIN_VALUE, "a", NoSuchElementException.class);
    Check.site(log, "{e0}");
    Check.log(log, 0, 0, 0, 0);
    log.flush(0);
    log.open();
    Check.due("nothing changed", Check.line(log, 0), "kept");
  }

  private static void corners() {
    EventLog log = new EventLog();
    Check.site(log, "{e7} {e0} {e6}");
    Check.name(log, 7, 31, "last");
    Check.name(log, 0, 0, "first");
    int[] codes = {31, 0, 32, -1, Integer.MIN_VALUE, 63};
    for (int code : codes) {
      Check.log(log, 0, 0, 0, code, code, code);
    }
    log.flush(0);
    log.open();
    Check.due("31", Check.line(log, 0), "last 31 31");
    Check.due("0", Check.line(log, 1), "0 first 0");
    Check.due("32 is the next table's", Check.line(log, 2), "32 32 32");
    Check.due("-1", Check.line(log, 3), "-1 -1 -1");
    Check.due("least", Check.line(log, 4), "-2147483648 -2147483648 -2147483648");
    Check.due("63", Check.line(log, 5), "63 63 63");
  }
}
