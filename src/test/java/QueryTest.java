/** Promises 20 (where), 21 (search), 22 (clear), 23 (find), 24 (count) and 25 (distinct). */
public final class QueryTest {
  public static void main(String[] args) {
    noTerms();
    kinds();
    searches();
    severalTerms();
    find();
    distinct();
    refused();
    Check.end();
  }

  /** Lines 0 .. 5, the times of which are their numbers. */
  private static EventLog sixLines() {
    EventLog log = new EventLog();
    Check.site(log, "n={d} {t}");
    Check.site(log, "{t}{u}");
    Check.site(log, "none");
    Check.log(log, 0, 0, 0, 5, "red");
    Check.log(log, 1, 0, 1, -5, "reed");
    Check.log(log, 2, 1, 2, "n=", 5);
    Check.log(log, 3, 2, 3);
    Check.log(log, 0, 0, 4, Integer.MIN_VALUE, "");
    Check.log(log, 1, 1, 5, "red", -1);
    for (int writer = 0; writer < 4; writer++) {
      log.flush(writer);
    }
    Check.due("open", log.open(), 6);
    return log;
  }

  private static String found(EventLog log) {
    StringBuilder lines = new StringBuilder();
    for (int line = log.find(0); line >= 0; line = log.find(line + 1)) {
      lines.append(line);
    }
    Check.due("count is of what is found", log.count(), lines.length());
    return lines.toString();
  }

  private static void holds(EventLog log, int kind, int a, int b, String due) {
    log.clear();
    Check.due("one term", log.where(kind, a, b), 1);
    Check.due("where(" + kind + ", " + a + ", " + b + ")", found(log), due);
  }

  private static void noTerms() {
    Check.due("all lines", found(sixLines()), "012345");
  }

  private static void kinds() {
    EventLog log = sixLines();
    int least = Integer.MIN_VALUE;
    int greatest = Integer.MAX_VALUE;
    holds(log, 0, 0, 9, "014");
    holds(log, 0, 1, 0, "25");
    holds(log, 0, 2, 0, "3");
    holds(log, 0, 3, 0, "");
    holds(log, 0, -1, 0, "");
    holds(log, 1, 0, 1, "04");
    holds(log, 1, 3, 0, "3");
    holds(log, 1, 4, 0, "");
    holds(log, 2, 0, 5, "0");
    holds(log, 2, 0, 6, "");
    holds(log, 2, 0, -5, "01");
    holds(log, 2, 0, least, "014");
    holds(log, 2, 1, least, "25");
    holds(log, 2, 1, 0, "2");
    holds(log, 3, 0, 5, "014");
    holds(log, 3, 0, 4, "14");
    holds(log, 3, 0, -6, "4");
    holds(log, 3, 0, least, "4");
    holds(log, 3, 1, greatest, "25");
    holds(log, 3, 1, -1, "5");
    int[] noSlots = {-1, 2, 5, 6, least, greatest};
    for (int slot : noSlots) {
      holds(log, 2, slot, least, "");
      holds(log, 3, slot, greatest, "");
    }
  }

  private static void stands(EventLog log, String text, String due) {
    log.clear();
    Check.due("one term", Check.search(log, text), 1);
    Check.due("search of '" + text + "'", found(log), due);
  }

  private static void searches() {
    EventLog log = sixLines();
    stands(log, "n=", "0124");
    stands(log, "n=5", "02");
    stands(log, "n=-", "14");
    stands(log, "red", "05");
    stands(log, "reed", "1");
    stands(log, "e", "0135");
    stands(log, "n=5 red", "0");
    stands(log, "n=5 red!", "");
    stands(log, " ", "014");
    stands(log, "4294967295", "5");
    stands(log, "none", "3");
    stands(log, "{", "");
    stands(log, "d4294967295", "5");
    stands(log, "24 bytes are found too..", "");
    EventLog overlapping = new EventLog();
    Check.site(overlapping, "aaabaaaab\u007e{t}");
    Check.log(overlapping, 0, 0, 0, "\0\u00ff\u0080");
    overlapping.flush(0);
    overlapping.open();
    stands(overlapping, "aaaab", "0");
    stands(overlapping, "aabaaaab", "0");
    stands(overlapping, "abaaab", "");
    stands(overlapping, "~\0\u00ff\u0080", "0");
    stands(overlapping, "\u0080", "0");
  }

  private static void severalTerms() {
    EventLog log = sixLines();
    Check.due("1", log.where(0, 0, 0), 1);
    Check.due("2", Check.search(log, "e"), 2);
    Check.due("both", found(log), "01");
    Check.due("3", Check.search(log, "-"), 3);
    Check.due("three", found(log), "1");
    Check.due("4", log.where(1, 0, 0), 4);
    Check.due("four", found(log), "");
    Check.due("clear", log.clear(), 4);
    Check.due("clear", log.clear(), 0);
    Check.due("none", found(log), "012345");
    log.where(2, 0, -5);
    log.where(3, 0, -5);
    Check.due("between", found(log), "1");
    log.rotate();
    Check.due("terms stay", found(log), "1");
    log.open();
    Check.due("no lines", found(log), "");
    Check.due("terms stay", log.clear(), 2);
  }

  private static void find() {
    EventLog log = sixLines();
    Check.due("from below", log.find(-1), 0);
    Check.due("from far below", log.find(Integer.MIN_VALUE), 0);
    Check.due("from 3", log.find(3), 3);
    Check.due("the last", log.find(5), 5);
    Check.due("behind it", log.find(6), -1);
    Check.due("far behind it", log.find(Integer.MAX_VALUE), -1);
    log.where(0, 1, 0);
    Check.due("from 0", log.find(0), 2);
    Check.due("from 2", log.find(2), 2);
    Check.due("from 3", log.find(3), 5);
  }

  private static void distinct() {
    EventLog log = sixLines();
    Check.due("slot 0", log.distinct(0), 3);
    Check.due("slot 1", log.distinct(1), 2);
    Check.due("slot 2", log.distinct(2), 0);
    Check.due("slot 5", log.distinct(5), 0);
    log.where(1, 0, 0);
    Check.due("of writer 0", log.distinct(0), 2);
    Check.due("of writer 0", log.distinct(1), 0);
    EventLog rising = new EventLog();
    Check.site(rising, "{d}");
    for (int k = -3; k < 5; k++) {
      Check.log(rising, 0, 0, 0, k);
    }
    rising.flush(0);
    rising.open();
    Check.due("rising", rising.distinct(0), 8);
    Check.due("once more", rising.distinct(0), 8);
    EventLog many = new EventLog();
    Check.site(many, "{d}{x}");
    Check.site(many, "{x}{t}");
    for (int k = 0; k < 60; k++) {
      Check.log(many, 0, k % 2, k, k * 37 % 11 - 5, k % 2 == 0 ? (Object) (k << 26) : "");
    }
    many.flush(0);
    many.open();
    Check.due("whatever the site", many.distinct(0), 11);
    Check.due("numbers alone", many.distinct(1), 30);
    many.where(0, 1, 0);
    Check.due("of a site", many.distinct(0), 11);
    Check.due("texts do not count", many.distinct(1), 0);
    many.where(2, 0, 3);
    Check.due("3, 4 and 5", many.distinct(0), 3);
  }

  private static void refused() {
    EventLog log = sixLines();
    Check.fails("kind 4", IllegalArgumentException.class, () -> log.where(4, 0, 0));
    Check.fails("kind -1", IllegalArgumentException.class, () -> log.where(-1, 0, 0));
    Check.fails("an empty text", IllegalArgumentException.class, log::search);
    Check.fails("25 bytes", IllegalArgumentException.class, () -> Check.search(log, "x".repeat(25)));
    Check.due("24 bytes", Check.search(log, "x".repeat(24)), 1);
    for (int k = 2; k <= 4; k++) {
      Check.due("where", log.where(0, 0, 0), k);
    }
    Check.fails("a fifth", UnsupportedOperationException.class, () -> log.where(0, 0, 0));
    Check.fails("a fifth", UnsupportedOperationException.class, () -> Check.search(log, "x"));
    Check.fails("the kind counts first", IllegalArgumentException.class, () -> log.where(4, 0, 0));
    Check.fails("the text counts first", IllegalArgumentException.class, log::search);
    Check.due("four", log.clear(), 4);
    int[] wrong = {-1, 6, Integer.MIN_VALUE, Integer.MAX_VALUE};
    for (int slot : wrong) {
      Check.fails("distinct(" + slot + ")", IndexOutOfBoundsException.class, () -> log.distinct(slot));
    }
  }
}
