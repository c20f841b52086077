/** Promise 3 (site): the faults of a format, and the sites' numbers. */
public final class SiteTest {
  private static final String SIX = "{d}{d}{d}{d}{d}{d}";

  public static void main(String[] args) {
    rightFormats();
    faults();
    faultsAtTheEdges();
    firstFaultCounts();
    bytesOutside();
    numbers();
    Check.end();
  }

  private static void right(String format) {
    Check.due("site of " + format, Check.site(new EventLog(), format), 0);
  }

  private static void fault(String format, int place) {
    Check.due("site of " + format, Check.site(new EventLog(), format), -place - 1);
  }

  private static void rightFormats() {
    right("");
    right(" ~");
    right("{d}");
    right("{u}{x}{t}");
    for (int digit = 1; digit <= 6; digit++) {
      right("{f" + digit + "}");
    }
    for (int digit = 0; digit <= 7; digit++) {
      right("{e" + digit + "}");
    }
    right("{{");
    right("}}");
    right("{{}}{{}}");
    right("{{d}}");
    right("{{{d}}}");
    right("{d}}}");
    right(SIX);
    right(SIX + "{{");
    right(SIX + "{{}}{{");
    right("x".repeat(80));
    right("x".repeat(77) + "{d}");
    right("x".repeat(78) + "{{");
  }

  private static void faults() {
    fault("{", 1);
    fault("{d", 2);
    fault("{f", 2);
    fault("{f1", 3);
    fault("{e7", 3);
    fault("}", 1);
    fault("}x", 1);
    fault("} }", 1);
    fault("x}{", 2);
    fault("{d}}", 4);
    fault("{d}}x", 4);
    fault("{}", 1);
    fault("{q}", 1);
    fault("{D}", 1);
    fault("{ d}", 1);
    fault("{d }", 2);
    fault("{d1}", 2);
    fault("{d{", 2);
    fault("{f}", 2);
    fault("{f0}", 2);
    fault("{f7}", 2);
    fault("{e}", 2);
    fault("{e8}", 2);
    fault("{e/}", 2);
    fault("{f11}", 3);
    fault("{e0{", 3);
    fault("{{{", 3);
    fault("{{}", 3);
    fault("}}}", 3);
  }

  private static void faultsAtTheEdges() {
    fault("x".repeat(81), 80);
    fault("x".repeat(200), 80);
    fault("x".repeat(79) + "{", 80);
    fault("x".repeat(78) + "{d", 80);
    fault("x".repeat(78) + "{d}", 80);
    fault("x".repeat(79) + "{{", 80);
    fault("x".repeat(79) + "}}", 80);
    fault(SIX + "{d}", 18);
    fault(SIX + "{", 18);
    fault(SIX + "{q", 18);
    fault(SIX + " {}", 19);
    fault(SIX + "{{{", 20);
    fault(SIX + "}", 19);
    fault(SIX + "x".repeat(61) + "{d", 79);
    fault(SIX + "x".repeat(61) + "{{", 80);
    fault(SIX + "x".repeat(61) + "{", 79);
    fault("{t}{u}{x}{f6}{e7}{d}{f1}", 20);
    EventLog log = new EventLog();
    Check.site(log, "x".repeat(18) + "{{{{");
    Check.due("a text before it does not count", Check.site(log, SIX + "{"), -19);
  }

  private static void firstFaultCounts() {
    fault("}x\t", 1);
    fault("a\t}x", 1);
    fault("{q" + "x".repeat(90), 1);
    fault("x".repeat(80) + "\t", 80);
    fault(SIX + "{\t", 18);
  }

  private static void bytesOutside() {
    for (int b = 0; b < 256; b++) {
      String format = "ab" + (char) b + (b == '{' || b == '}' ? (char) b : "");
      if (b >= 32 && b <= 126) {
        right(format);
      } else {
        fault(format, 2);
      }
    }
    fault("{\n", 1);
    fault("{f\u0080", 2);
    fault("}\u00ff", 1);
  }

  private static void numbers() {
    EventLog log = new EventLog();
    for (int k = 0; k < 39; k++) {
      Check.due("a new site", Check.site(log, "site " + k), k);
      Check.due("the same again", Check.site(log, "site " + k), k);
    }
    Check.due("alike but for the slot", Check.site(log, "site {d}"), 39);
    Check.type(log, "site {u}");
    Check.fails("the 41st", UnsupportedOperationException.class, log::site);
    Check.type(log, "site {f1}");
    Check.fails("the 41st", UnsupportedOperationException.class, log::site);
    Check.fails("the empty one is of none", UnsupportedOperationException.class, log::site);
    Check.due("one that there is", Check.site(log, "site {d}"), 39);
    Check.due("one that there is", Check.site(log, "site 0"), 0);
    Check.due("a fault still counts", Check.site(log, "site {"), -7);
    EventLog kinds = new EventLog();
    String[] formats = {"{f1}", "{f2}", "{e1}", "{e2}", "{d}", "{u}", "{x}", "{t}", "{{d}}", "", "{{", "}}"};
    for (int k = 0; k < formats.length; k++) {
      Check.due("site of " + formats[k], Check.site(kinds, formats[k]), k);
    }
    for (int k = 0; k < formats.length; k++) {
      Check.due("again, site of " + formats[k], Check.site(kinds, formats[k]), k);
    }
  }
}
