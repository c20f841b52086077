/** Promises 20 (where), 21 (search), 22 (clear), 23 (find), 24 (count) and 25 (distinct). */
public final class QueryTest {
  private static final int LEAST = Integer.MIN_VALUE;
  private static final int GREATEST = Integer.MAX_VALUE;

  public static void main(String[] args) {
    termsAreCounted();
    otherKinds();
    fourTerms();
    siteIs();
    writerIs();
    notBelow();
    notAbove();
    noSuchSlot();
    numbersAreSigned();
    searchSizes();
    fourSearches();
    standsSomewhere();
    standsAtTheEdges();
    everyTermMustHold();
    clear();
    termsStay();
    find();
    count();
    distinctSlots();
    distinctNumbers();
    distinctByTerms();
    distinctOfMany();
    Check.end();
  }

  /** Lines 0 .. 5, the times of which are their numbers. */
  private static Counted sixLines() {
    Counted log = new Counted();
    Check.site(log, "n={d} {t}");
    Check.site(log, "{t}{u}");
    Check.site(log, "none");
    Check.log(log, 0, 0, 0, 5, "red");
    Check.log(log, 1, 0, 1, -5, "reed");
    Check.log(log, 2, 1, 2, "n=", 5);
    Check.log(log, 3, 2, 3);
    Check.log(log, 0, 0, 4, LEAST, "");
    Check.log(log, 1, 1, 5, "red", -1);
    for (int writer = 0; writer < 4; writer++) {
      log.flush(writer);
    }
    Check.due("open", log.open(), 6);
    return log;
  }

  private static String found(Counted log) {
    StringBuilder lines = new StringBuilder();
    for (int line = log.find(0); line >= 0; line = log.find(line + 1)) {
      lines.append(line);
    }
    Check.due("count is of what is found", log.count(), lines.length());
    return lines.toString();
  }

  private static void holds(Counted log, int kind, int a, int b, String due) {
    log.clear();
    Check.due("one term", log.where(kind, a, b), 1);
    Check.due("where(" + kind + ", " + a + ", " + b + ")", found(log), due);
  }

  private static void termsAreCounted() {
    Check.sentence("A TERM comes to the query: how many it has.");
    for (int kind = 0; kind < 4; kind++) {
      Counted log = sixLines();
      for (int terms = 1; terms <= 4; terms++) {
        Check.due("where(" + kind + ")", log.where(kind, LEAST, GREATEST), terms);
      }
    }
  }

  private static void otherKinds() {
    Check.sentence("IllegalArgumentException for another kind; UnsupportedOperationException when it has four.");
    int[] wrong = {-1, 4, 5, LEAST, GREATEST};
    for (int kind : wrong) {
      Counted log = sixLines();
      Check.fails("kind " + kind, IllegalArgumentException.class, () -> log.where(kind, 0, 0));
      Check.due("no term came", log.clear(), 0);
    }
  }

  private static void fourTerms() {
    Counted log = sixLines();
    for (int terms = 1; terms <= 4; terms++) {
      Check.due("where", log.where(0, 0, 0), terms);
    }
    for (int kind = 0; kind < 4; kind++) {
      int fifth = kind;
      Check.fails("a fifth", UnsupportedOperationException.class, () -> log.where(fifth, 3, 3));
    }
    Check.due("the four are as they were", found(log), "014");
    Check.due("four", log.clear(), 4);
    Check.due("the first again", log.where(0, 0, 0), 1);
  }

  private static void siteIs() {
    Check.sentence("Kind 0: the site is a;");
    Counted log = sixLines();
    holds(log, 0, 0, 9, "014");
    holds(log, 0, 1, LEAST, "25");
    holds(log, 0, 2, GREATEST, "3");
    int[] none = {3, -1, 40, LEAST, GREATEST, 256};
    for (int site : none) {
      holds(log, 0, site, 0, "");
    }
  }

  private static void writerIs() {
    Check.sentence("1: the writer is a;");
    Counted log = sixLines();
    holds(log, 1, 0, 1, "04");
    holds(log, 1, 1, 0, "15");
    holds(log, 1, 2, 0, "2");
    holds(log, 1, 3, 0, "3");
    int[] none = {4, -1, LEAST, GREATEST, 256};
    for (int writer : none) {
      holds(log, 1, writer, 0, "");
    }
  }

  private static void notBelow() {
    Check.sentence("2: it has a slot a with a number not below b;");
    Counted log = sixLines();
    holds(log, 2, 0, 4, "0");
    holds(log, 2, 0, 5, "0");
    holds(log, 2, 0, 6, "");
    holds(log, 2, 0, -4, "0");
    holds(log, 2, 0, -5, "01");
    holds(log, 2, 0, -6, "01");
    holds(log, 2, 0, LEAST + 1, "01");
    holds(log, 2, 0, LEAST, "014");
    holds(log, 2, 0, GREATEST, "");
    holds(log, 2, 1, LEAST, "25");
  }

  private static void notAbove() {
    Check.sentence("3: with a number not above b.");
    Counted log = sixLines();
    holds(log, 3, 0, 6, "014");
    holds(log, 3, 0, 5, "014");
    holds(log, 3, 0, 4, "14");
    holds(log, 3, 0, -4, "14");
    holds(log, 3, 0, -5, "14");
    holds(log, 3, 0, -6, "4");
    holds(log, 3, 0, LEAST, "4");
    holds(log, 3, 0, GREATEST, "014");
    holds(log, 3, 1, GREATEST, "25");
    Counted greatest = Check.oneLine("{d}", GREATEST);
    holds(greatest, 2, 0, GREATEST, "0");
    holds(greatest, 3, 0, GREATEST, "0");
    holds(greatest, 3, 0, GREATEST - 1, "");
  }

  private static void noSuchSlot() {
    Counted log = sixLines();
    int[] none = {-1, 2, 5, 6, 7, LEAST, GREATEST};
    for (int slot : none) {
      holds(log, 2, slot, LEAST, "");
      holds(log, 3, slot, GREATEST, "");
    }
    Counted six = Check.oneLine("{d}{d}{d}{d}{d}{d}", 1, 2, 3, 4, 5, 6);
    for (int slot = 0; slot < 6; slot++) {
      holds(six, 2, slot, slot + 1, "0");
      holds(six, 2, slot, slot + 2, "");
      holds(six, 3, slot, slot + 1, "0");
      holds(six, 3, slot, slot, "");
    }
    holds(six, 2, 6, LEAST, "");
    Counted text = Check.oneLine("{t}", "four");
    holds(text, 2, 0, LEAST, "");
    holds(text, 3, 0, GREATEST, "");
  }

  /** Numbers are ints, whatever their slot makes of their sign when it prints them. */
  private static void numbersAreSigned() {
    String[] kinds = {"{d}", "{u}", "{x}", "{f1}", "{e0}"};
    for (String kind : kinds) {
      Counted log = Check.oneLine(kind, -1);
      holds(log, 2, 0, 0, "");
      holds(log, 2, 0, -1, "0");
      holds(log, 3, 0, -1, "0");
      holds(log, 3, 0, -2, "");
    }
  }

  private static void searchSizes() {
    Check.sentence("IllegalArgumentException when it is empty or has more than 24 bytes; UnsupportedOperationException when it has four.");
    Counted log = Check.oneLine("x".repeat(30));
    Check.fails("an empty text", IllegalArgumentException.class, log::search);
    int[] wrong = {25, 26, 80, 200};
    for (int size : wrong) {
      Check.refuses("of " + size, IllegalArgumentException.class, log, y -> Check.search(y, "x".repeat(size)));
    }
    Check.due("no term came", log.clear(), 0);
    int[] right = {1, 2, 23, 24};
    for (int size : right) {
      Check.due("of " + size, Check.search(log, "x".repeat(size)), 1);
      Check.due("found", found(log), "0");
      log.clear();
    }
    Check.search(log, "x".repeat(23) + "y");
    Check.due("the 24th counts", found(log), "");
  }

  private static void fourSearches() {
    Counted log = sixLines();
    String[] texts = {"n", "=", "r", "e"};
    for (int terms = 1; terms <= 4; terms++) {
      Check.due("search", Check.search(log, texts[terms - 1]), terms);
    }
    Check.refuses("a fifth", UnsupportedOperationException.class, log, x -> Check.search(x, "none"));
    Check.fails("a fifth, of where", UnsupportedOperationException.class, () -> log.where(0, 2, 0));
    Check.due("the four are as they were", found(log), "01");
  }

  private static void stands(Counted log, String text, String due) {
    log.clear();
    Check.due("one term", Check.search(log, text), 1);
    Check.due("search of '" + text + "'", found(log), due);
  }

  private static void standsSomewhere() {
    Check.sentence("The text is taken as a term: it stands somewhere in the line's text: how many terms the query has.");
    Counted log = sixLines();
    stands(log, "n=", "0124");
    stands(log, "n=5", "02");
    stands(log, "n=-", "14");
    stands(log, "red", "05");
    stands(log, "reed", "1");
    stands(log, "e", "0135");
    stands(log, " ", "014");
    stands(log, "4294967295", "5");
    stands(log, "{", "");
    stands(log, "d4294967295", "5");
    Counted overlapping = Check.oneLine("aaabaaaab\u007e{t}", "\0\u00ff\u0080");
    stands(overlapping, "aaaab", "0");
    stands(overlapping, "aabaaaab", "0");
    stands(overlapping, "abaaab", "");
    stands(overlapping, "~\0\u00ff\u0080", "0");
    stands(overlapping, "\u0080", "0");
    stands(overlapping, "\0", "0");
  }

  private static void standsAtTheEdges() {
    Counted log = sixLines();
    stands(log, "none", "3");
    stands(log, "nones", "");
    stands(log, "anone", "");
    stands(log, "n", "01234");
    stands(log, "n=5 red", "0");
    stands(log, "n=5 red!", "");
    stands(log, "=5 red", "0");
    stands(log, "n=5 re", "0");
    stands(Check.oneLine(""), "a", "");
    stands(Check.oneLine("{t}", ""), "\0", "");
    String longest = "x".repeat(79) + "y";
    stands(Check.oneLine(longest), "x".repeat(23) + "y", "0");
    stands(Check.oneLine(longest), "x".repeat(22) + "yx", "");
  }

  private static void everyTermMustHold() {
    Check.sentence("The first line from one on (0 if that is below) for which all terms hold; -1 if there is none.");
    Counted log = sixLines();
    Check.due("no terms", found(log), "012345");
    log.where(0, 0, 0);
    Check.search(log, "e");
    Check.due("both", found(log), "01");
    Check.search(log, "-");
    Check.due("three", found(log), "1");
    log.where(1, 0, 0);
    Check.due("four", found(log), "");
    log.clear();
    Check.due("none", found(log), "012345");
    log.where(2, 0, -5);
    log.where(3, 0, -5);
    Check.due("between", found(log), "1");
    log.clear();
    log.where(0, 0, 0);
    log.where(0, 1, 0);
    Check.due("two that shut each other out", found(log), "");
    log.clear();
    log.where(0, 1, 0);
    log.where(0, 1, 0);
    Check.due("the same twice", found(log), "25");
  }

  private static void clear() {
    Check.sentence("The query has no terms: how many it had.");
    Counted log = sixLines();
    for (int terms = 0; terms <= 4; terms++) {
      for (int k = 0; k < terms; k++) {
        log.where(0, 9, 0);
      }
      Check.due("clear", log.clear(), terms);
      Check.due("and once more", log.clear(), 0);
      Check.due("all lines", log.count(), 6);
    }
  }

  private static void termsStay() {
    Counted log = sixLines();
    log.where(2, 0, -5);
    Check.search(log, "red");
    Check.due("found", found(log), "0");
    log.rotate();
    Check.due("behind rotate", found(log), "0");
    log.open();
    Check.due("no lines", found(log), "");
    Check.due("behind open", log.clear(), 2);
  }

  private static void find() {
    Counted log = sixLines();
    int[] from = {LEAST, -2, -1, 0, 1, 4, 5, 6, 7, GREATEST};
    int[] due = {0, 0, 0, 0, 1, 4, 5, -1, -1, -1};
    for (int k = 0; k < from.length; k++) {
      Check.due("find(" + from[k] + ")", log.find(from[k]), due[k]);
    }
    log.where(0, 1, 0);
    int[] dueOfSite = {2, 2, 2, 2, 2, 5, 5, -1, -1, -1};
    for (int k = 0; k < from.length; k++) {
      Check.due("find(" + from[k] + ") of site 1", log.find(from[k]), dueOfSite[k]);
    }
    Check.due("from itself", log.find(2), 2);
    Check.due("from behind it", log.find(3), 5);
    Counted none = new Counted();
    Check.due("no lines", none.find(0), -1);
    Check.due("no lines", none.find(LEAST), -1);
    Check.due("no lines", none.find(GREATEST), -1);
  }

  private static void count() {
    Check.sentence("For how many lines all terms hold.");
    Counted log = sixLines();
    Check.due("all", log.count(), 6);
    log.where(0, 0, 0);
    Check.due("three", log.count(), 3);
    log.where(1, 3, 0);
    Check.due("none", log.count(), 0);
    Check.due("no lines", new Counted().count(), 0);
    Counted terms = new Counted();
    terms.where(0, 0, 0);
    Check.due("no lines, and a term", terms.count(), 0);
  }

  private static void distinctSlots() {
    Check.sentence("IndexOutOfBoundsException when slot is not 0 .. 5.");
    int[] wrong = {-1, 6, 7, LEAST, GREATEST};
    for (int slot : wrong) {
      Counted log = sixLines();
      Check.fails("distinct(" + slot + ")", IndexOutOfBoundsException.class, () -> log.distinct(slot));
      Check.fails("without lines", IndexOutOfBoundsException.class, () -> new Counted().distinct(slot));
    }
    Counted six = Check.oneLine("{d}{d}{d}{d}{d}{d}", 1, 1, 1, 1, 1, 1);
    for (int slot = 0; slot < 6; slot++) {
      Check.due("slot " + slot, six.distinct(slot), 1);
      Check.due("without lines", new Counted().distinct(slot), 0);
    }
  }

  private static Counted numbers(String kind, int... numbers) {
    Counted log = new Counted();
    Check.site(log, kind);
    for (int number : numbers) {
      Check.log(log, 0, 0, 0, number);
    }
    log.flush(0);
    log.open();
    return log;
  }

  private static void distinctNumbers() {
    Check.sentence("How many different numbers a slot has in lines for which all terms hold and that have a number there.");
    Counted log = sixLines();
    Check.due("slot 0", log.distinct(0), 3);
    Check.due("slot 1", log.distinct(1), 2);
    Check.due("slot 2", log.distinct(2), 0);
    Check.due("slot 5", log.distinct(5), 0);
    Check.due("all the same", numbers("{d}", 7, 7, 7).distinct(0), 1);
    Check.due("rising", numbers("{d}", -3, -2, -1, 0, 1, 2, 3).distinct(0), 7);
    Check.due("falling", numbers("{d}", 3, 2, 1, 0, -1, -2, -3).distinct(0), 7);
    Check.due("again", numbers("{d}", 5, 1, 3, 1, 5, 3, 2).distinct(0), 4);
    Check.due("the edges", numbers("{d}", LEAST, GREATEST, 0, -1, LEAST, GREATEST).distinct(0), 4);
    Check.due("without a sign", numbers("{u}", -1, 1, LEAST, -1).distinct(0), 3);
    Check.due("texts do not count", Check.oneLine("{t}", "four").distinct(0), 0);
    Counted named = numbers("{e0}", 1, 2, 3);
    Check.name(named, 0, 1, "same");
    Check.name(named, 0, 2, "same");
    Check.due("by numbers, not by names", named.distinct(0), 3);
  }

  private static void distinctByTerms() {
    Counted log = sixLines();
    log.where(1, 0, 0);
    Check.due("of writer 0", log.distinct(0), 2);
    Check.due("of writer 0", log.distinct(1), 0);
    Check.search(log, "red");
    Check.due("with red", log.distinct(0), 1);
    log.where(0, 2, 0);
    Check.due("of none", log.distinct(0), 0);
  }

  private static void distinctOfMany() {
    Counted many = new Counted();
    Check.site(many, "{d}{x}");
    Check.site(many, "{x}{t}");
    for (int k = 0; k < 60; k++) {
      Check.log(many, 0, k % 2, k, k * 37 % 11 - 5, k % 2 == 0 ? (Object) (k << 26) : "");
    }
    many.flush(0);
    many.open();
    Check.due("whatever the site", many.distinct(0), 11);
    Check.due("numbers alone", many.distinct(1), 30);
    Check.due("once more", many.distinct(1), 30);
    many.where(0, 1, 0);
    Check.due("of a site", many.distinct(0), 11);
    Check.due("texts do not count", many.distinct(1), 0);
    many.where(2, 0, 3);
    Check.due("3, 4 and 5", many.distinct(0), 3);
  }
}
