import java.util.NoSuchElementException;

/** Promise 4 (name). */
public final class NameTest {
  public static void main(String[] args) {
    insteadOfWhatItHad();
    asTablesAreWhenAsked();
    tables();
    codes();
    sizes();
    bytes();
    refusedNameIsNotTaken();
    codesThatHaveNoName();
    Check.end();
  }

  private static Counted coded(int table, int code) {
    return Check.oneLine("{e" + table + "}", code);
  }

  private static void wrong(Counted log, int table, int code, String text, Class<? extends RuntimeException> due) {
    Check.refuses("name(" + table + ", " + code + ") of '" + text + "'", due, log, x -> Check.name(x, table, code, text));
  }

  private static void insteadOfWhatItHad() {
    Check.sentence("The text is taken as the name of a code in a table, instead of what it had.");
    Counted log = coded(2, 3);
    Check.due("no name yet", Check.line(log, 0), "3");
    Check.name(log, 2, 3, "twelve bytes");
    Check.due("named", Check.line(log, 0), "twelve bytes");
    Check.name(log, 2, 3, "x");
    Check.due("a shorter one", Check.line(log, 0), "x");
    Check.name(log, 2, 3, "longer");
    Check.due("a longer one", Check.line(log, 0), "longer");
    Check.name(log, 2, 2, "before");
    Check.name(log, 2, 4, "behind");
    Check.name(log, 1, 3, "below");
    Check.name(log, 3, 3, "above");
    Check.due("others are not meant", Check.line(log, 0), "longer");
  }

  private static void asTablesAreWhenAsked() {
    Check.sentence("A line's text is its event printed by its site's format, as tables are when it is asked for.");
    Counted log = coded(1, 3);
    Check.search(log, "stop");
    Check.due("not found", log.count(), 0);
    Check.name(log, 1, 3, "stop");
    Check.due("its length", log.length(0), 4);
    Check.due("found by its name", log.count(), 1);
    Check.due("found by its name", log.find(0), 0);
    Check.name(log, 1, 3, " ~");
    Check.due("its length", log.length(0), 2);
    Check.due("not by an old one", log.count(), 0);
    log.rotate();
    Check.due("tables stay", Check.line(log, 0), " ~");
  }

  private static void tables() {
    Check.sentence("TABLES 0 .. 7 name codes 0 .. 31 with texts of 1 to 12 bytes 32 .. 126.");
    for (int table = 0; table < 8; table++) {
      Counted log = coded(table, 0);
      Check.name(log, table, 0, "of " + table);
      Check.due("table " + table, Check.line(log, 0), "of " + table);
    }
    int[] none = {-1, 8, Integer.MIN_VALUE, Integer.MAX_VALUE};
    for (int table : none) {
      wrong(new Counted(), table, 0, "a", NoSuchElementException.class);
    }
  }

  private static void codes() {
    int[] there = {0, 1, 15, 30, 31};
    for (int code : there) {
      Counted log = coded(7, code);
      Check.name(log, 7, code, "a name");
      Check.due("code " + code, Check.line(log, 0), "a name");
    }
    int[] none = {-1, 32, 33, Integer.MIN_VALUE, Integer.MAX_VALUE};
    for (int code : none) {
      wrong(new Counted(), 0, code, "a", NoSuchElementException.class);
      wrong(new Counted(), 7, code, "a", NoSuchElementException.class);
    }
  }

  private static void sizes() {
    Check.sentence("IllegalArgumentException when it is no such text.");
    wrong(new Counted(), 0, 0, "", IllegalArgumentException.class);
    wrong(new Counted(), 0, 0, "y".repeat(13), IllegalArgumentException.class);
    wrong(new Counted(), 0, 0, "y".repeat(200), IllegalArgumentException.class);
    for (int size = 1; size <= 12; size++) {
      Counted log = coded(0, 0);
      Check.name(log, 0, 0, "y".repeat(size));
      Check.due("of " + size, Check.line(log, 0), "y".repeat(size));
    }
  }

  private static void bytes() {
    for (int b = 0; b < 256; b++) {
      int[] places = {0, 5, 11};
      for (int place : places) {
        String text = "y".repeat(place) + (char) b + "y".repeat(11 - place);
        if (b >= 32 && b <= 126) {
          Counted log = coded(0, 0);
          Check.name(log, 0, 0, text);
          Check.due("byte " + b, Check.line(log, 0), text);
        } else {
          wrong(new Counted(), 0, 0, text, IllegalArgumentException.class);
        }
      }
    }
  }

  private static void refusedNameIsNotTaken() {
    Counted log = coded(0, 0);
    wrong(log, 0, 0, "a\u001f", IllegalArgumentException.class);
    Check.due("no name still", Check.line(log, 0), "0");
    Check.name(log, 0, 0, "kept");
    wrong(log, 0, 0, "", IllegalArgumentException.class);
    wrong(log, 0, 0, "thirteen byte", IllegalArgumentException.class);
    wrong(log, 0, 0, "ab\u007f", IllegalArgumentException.class);
    wrong(log, 8, 0, "a", NoSuchElementException.class);
    wrong(log, -1, 32, "a", NoSuchElementException.class);
    Check.due("nothing changed", Check.line(log, 0), "kept");
  }

  private static void codesThatHaveNoName() {
    Check.sentence("or a signed number if that names it not;");
    Counted log = new Counted();
    Check.site(log, "{e7} {e0} {e6}");
    Check.name(log, 7, 31, "last");
    Check.name(log, 0, 0, "first");
    int[] codes = {31, 0, 32, -1, Integer.MIN_VALUE, 63, Integer.MAX_VALUE};
    for (int code : codes) {
      Check.log(log, 0, 0, 0, code, code, code);
    }
    log.flush(0);
    log.open();
    Check.due("31", Check.line(log, 0), "last 31 31");
    Check.due("0", Check.line(log, 1), "0 first 0");
    Check.due("32 is not the next table's", Check.line(log, 2), "32 32 32");
    Check.due("-1", Check.line(log, 3), "-1 -1 -1");
    Check.due("the least", Check.line(log, 4), "-2147483648 -2147483648 -2147483648");
    Check.due("63", Check.line(log, 5), "63 63 63");
    Check.due("the greatest", Check.line(log, 6), "2147483647 2147483647 2147483647");
  }
}
