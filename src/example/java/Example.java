/** How EventLog is used. README.md shows this program and what it prints. */
public final class Example {
  public static void main(String[] args) {
    EventLog log = new EventLog();

    type(log, "{t} took {f3} s: {e0}");
    int took = log.site();                     // a format is told once, and has a number from then on
    type(log, "well");
    log.name(0, 1);                            // table 0 names code 1

    write(log, 2, took, 1000L, "load", 1250, 1);
    write(log, 0, took, 990L, "find", 4, 7);
    log.flush(2);                              // a writer's block goes to the file,
    log.flush(0);                              // and all that is in the file is durable
    show(log);

    log.where(2, 1, 1000);                     // a term: slot 1 has a number not below 1000
    type(log, "load");
    log.search();                              // a term: "load" stands in the line
    System.out.println("first " + log.find(0) + ", in all " + log.count() + ", terms " + log.clear());

    log.damage(20, 0);                         // a byte in the first block, which writer 2 filled
    show(log);

    log.rotate();                              // a new file
    write(log, 1, took, 2000L, "save", 80, 1);
    log.flush(1);
    for (int k = 0; k < 20; k++) {
      write(log, 1, took, 2001L + k, "not durable", k, 1);
    }
    System.out.println("before the crash " + log.size() + ", behind it " + log.crash(100));
    show(log);
    log.rotate();                              // nothing can be logged behind a crash before this
  }

  /** The arguments are given one for each slot, in their order; then the event is logged. */
  private static void write(EventLog log, int writer, int site, long time, String what, int thousandths, int code) {
    type(log, what);
    log.text();
    log.arg(thousandths);
    log.arg(code);
    log.log(writer, site, time);
  }

  /** A text is typed up to eight bytes at a time, the first of them as the lowest. */
  private static void type(EventLog log, String text) {
    for (int from = 0; from < text.length(); from += 8) {
      int n = Math.min(8, text.length() - from);
      long word = 0;
      for (int k = n - 1; k >= 0; k--) {
        word = word << 8 | text.charAt(from + k);
      }
      log.type(word, n);
    }
  }

  private static void show(EventLog log) {
    int lines = log.open();                    // the file is read
    System.out.println("lines " + lines + ", broken blocks " + log.broken());
    for (int line = 0; line < lines; line++) {
      StringBuilder text = new StringBuilder();
      int length = log.length(line);
      for (int k = 0; k < length; k++) {
        text.append((char) log.letter(line, k));
      }
      System.out.println("  " + log.time(line) + " writer " + log.about(line, -2) + ": " + text);
    }
  }
}
