/** What the tests share: calls with the answer or the exception that is due, and ways to type and read texts. */
final class Check {
  interface Call {
    long answer();
  }

  private static int checks = 0;
  private static int wrong = 0;

  private Check() {}

  static void due(String what, long got, long want) {
    checks++;
    if (got != want) {
      report(what + " answered " + got + ", due is " + want);
    }
  }

  static void due(String what, String got, String want) {
    checks++;
    if (!got.equals(want)) {
      report(what + " answered '" + got + "', due is '" + want + "'");
    }
  }

  static void fails(String what, Class<? extends RuntimeException> want, Call call) {
    checks++;
    try {
      report(what + " answered " + call.answer() + ", due is " + want.getSimpleName());
    } catch (RuntimeException e) {
      if (e.getClass() != want) {
        report(what + " threw " + e + ", due is " + want.getSimpleName());
      }
    }
  }

  static void report(String text) {
    wrong++;
    System.out.println(text);
  }

  static void end() {
    System.out.println(checks + " checks, " + wrong + " wrong");
    if (wrong != 0 || checks == 0) {
      System.exit(1);
    }
  }

  static void type(EventLog log, String text) {
    for (int k = 0; k < text.length(); k++) {
      if (!log.type(text.charAt(k), 1)) {
        report("typing failed at byte " + k + " of '" + text + "'");
      }
    }
  }

  static int site(EventLog log, String format) {
    type(log, format);
    return log.site();
  }

  static void name(EventLog log, int table, int code, String text) {
    type(log, text);
    log.name(table, code);
  }

  static int search(EventLog log, String text) {
    type(log, text);
    return log.search();
  }

  /** Logs with arguments that are Integers or Strings. */
  static int log(EventLog log, int writer, int site, long time, Object... arguments) {
    give(log, arguments);
    return log.log(writer, site, time);
  }

  static void give(EventLog log, Object... arguments) {
    for (Object argument : arguments) {
      if (argument instanceof String) {
        type(log, (String) argument);
        log.text();
      } else {
        log.arg((Integer) argument);
      }
    }
  }

  static String line(EventLog log, int line) {
    StringBuilder text = new StringBuilder();
    for (int k = 0; k < log.length(line); k++) {
      text.append((char) log.letter(line, k));
    }
    return text.toString();
  }

  /** The bytes of the file from one place on, each behind a blank. */
  static String bytes(EventLog log, int from, int count) {
    StringBuilder text = new StringBuilder();
    for (int k = 0; k < count; k++) {
      text.append(k == 0 ? "" : " ").append(log.byteOf(from + k));
    }
    return text.toString();
  }

  static void damage(EventLog log, int from, int... bytes) {
    for (int k = 0; k < bytes.length; k++) {
      log.damage(from + k, bytes[k]);
    }
  }

  /** Makes a block's sum the right one again, in at most four calls. */
  static void mendSum(EventLog log, int block) {
    int sum = 0;
    for (int k = 0; k < 252; k++) {
      sum = sum * 31 + log.byteOf(256 * block + k);
    }
    for (int k = 0; k < 4; k++) {
      log.damage(256 * block + 252 + k, sum >>> (24 - 8 * k));
    }
  }

  /** Block 0 gets these bytes of events, under a right sum. */
  static void putEvents(EventLog log, int... bytes) {
    damage(log, 12, bytes.length >> 8, bytes.length);
    damage(log, 14, bytes);
    mendSum(log, 0);
  }
}
