/** Promise 3 (site): formats, their faults, and the sites' numbers. */
public final class SiteTest {
  private static final String SIX = "{d}{d}{d}{d}{d}{d}";
  private static final String[] KINDS = {
    "{d}", "{u}", "{x}", "{f1}", "{f2}", "{f3}", "{f4}", "{f5}", "{f6}",
    "{e0}", "{e1}", "{e2}", "{e3}", "{e4}", "{e5}", "{e6}", "{e7}", "{t}"
  };

  public static void main(String[] args) {
    sizes();
    bytes();
    braces();
    kinds();
    slotCounts();
    byteOutside();
    eightyFirst();
    openedWithSixSlots();
    noSlotAnyMore();
    digits();
    lonelyEnd();
    missing();
    firstFaultCounts();
    placesMadeNegative();
    numbers();
    fortySites();
    everyFormatIsOfItsOwn();
    Check.end();
  }

  private static void right(String format) {
    Check.due("site of " + format, Check.site(new Counted(), format), 0);
  }

  private static void fault(String format, int place) {
    Check.due("site of " + format, Check.site(new Counted(), format), -place - 1);
  }

  private static void sizes() {
    Check.sentence("A FORMAT is a text of at most 80 bytes 32 .. 126");
    right("");
    right("x");
    right("x".repeat(79));
    right("x".repeat(80));
    fault("x".repeat(81), 80);
    fault("x".repeat(200), 80);
    right("x".repeat(77) + "{d}");
    right("x".repeat(76) + "{f1}");
    right("x".repeat(78) + "{{");
    right("x".repeat(78) + "}}");
    right("{d}" + "x".repeat(77));
    right("{{".repeat(40));
    fault("{{".repeat(40) + "x", 80);
  }

  private static void bytes() {
    for (int b = 0; b < 256; b++) {
      String twice = b == '{' || b == '}' ? "" + (char) b : "";
      boolean plain = b >= 32 && b <= 126;
      int[] places = {0, 1, 40, 78 - twice.length()};
      for (int place : places) {
        String format = "x".repeat(place) + (char) b + twice + "y";
        Check.due("byte " + b + " at " + place, Check.site(new Counted(), format), plain ? 0 : -place - 1);
      }
    }
  }

  private static void braces() {
    Check.sentence("all else is printed as it stands ({{ is one {, }} one })");
    right("{{");
    right("}}");
    right("{{}}{{}}");
    right("}}{{");
    right("{{d}}");
    right("{{{d}}}");
    right("{d}}}");
    right("{{{{{d}");
    Check.prints("{", "{{");
    Check.prints("}", "}}");
    Check.prints("{{", "{{{{");
    Check.prints("{d}", "{{d}}");
    Check.prints("{7}", "{{{d}}}", 7);
    Check.prints("7}", "{d}}}", 7);
    Check.prints("}7{", "}}{d}{{", 7);
  }

  private static void kinds() {
    Check.sentence("{d} a signed number, {u} the same 32 bits without a sign, {x} these in hexadecimal digits (0 .. 9, a .. f, no zeros before), {f1} to {f6} a signed number with so many digits behind a point (at least one before it), {e0} to {e7} what the table of that number names it, or a signed number if that names it not; {t} a text.");
    for (String kind : KINDS) {
      right(kind);
      right("a" + kind + "b");
    }
    for (int first = 32; first <= 126; first++) {
      String letter = "" + (char) first;
      if ("duxtfe{".indexOf(first) < 0) {
        fault("{" + letter + "}", 1);
      }
    }
  }

  private static void slotCounts() {
    Check.sentence("At most six slots.");
    for (String kind : KINDS) {
      right(kind.repeat(5));
      right(kind.repeat(6));
      fault(kind.repeat(7), 6 * kind.length());
      fault(kind.repeat(6) + " {d}", 6 * kind.length() + 1);
    }
    right("{t}{u}{x}{f6}{e7}{d}");
    fault("{t}{u}{x}{f6}{e7}{d}{f1}", 20);
  }

  private static void byteOutside() {
    Check.sentence("a byte that is not 32 .. 126, or the 81st;");
    int[] outside = {0, 9, 10, 31, 127, 128, 255};
    for (int b : outside) {
      String bad = "" + (char) b;
      fault(bad, 0);
      fault("a" + bad, 1);
      fault("{" + bad, 1);
      fault("{d" + bad, 2);
      fault("{f" + bad, 2);
      fault("{e7" + bad, 3);
      fault("{d}" + bad, 3);
      fault("}" + bad, 1);
      fault("{{" + bad, 2);
      fault("x".repeat(79) + bad, 79);
      fault("x".repeat(80) + bad, 80);
      fault("x".repeat(81) + bad, 80);
    }
  }

  private static void eightyFirst() {
    right("x".repeat(78) + "}}");
    fault("x".repeat(79) + "}}", 80);
    fault("x".repeat(79) + "{{", 80);
    fault("x".repeat(78) + "{d}", 80);
    fault("x".repeat(77) + "{f6}", 80);
    fault("x".repeat(80) + "{", 80);
    fault("x".repeat(80) + "}", 80);
    fault("x".repeat(79) + "{q", 80);
    fault("x".repeat(79) + "}q", 80);
  }

  private static void openedWithSixSlots() {
    Check.sentence("with six slots a { behind which no { stands;");
    right(SIX);
    right(SIX + "{{");
    right(SIX + "{{}}{{");
    right(SIX + "x");
    right("{{" + SIX);
    right("{d}{d}{d}{d}{d}{{{d}{{");
    fault(SIX + "{d}", 18);
    fault(SIX + "{", 18);
    fault(SIX + "{}", 18);
    fault(SIX + "{q", 18);
    fault(SIX + "{\t", 18);
    fault(SIX + " {}", 19);
    fault(SIX + "{{{", 20);
    fault(SIX + "{{{d}", 20);
    fault("{d}{d}{d}{d}{d}{", 16);
    fault("{d}{d}{d}{d}{d}{q", 16);
    right(SIX + "x".repeat(60) + "{{");
    fault(SIX + "x".repeat(61) + "{d", 79);
    fault(SIX + "x".repeat(61) + "{", 79);
    fault(SIX + "x".repeat(61) + "{{", 80);
    fault(SIX + "x".repeat(62) + "{", 80);
    Counted log = new Counted();
    Check.site(log, "x".repeat(18) + "{{{{");
    Check.due("a text before it does not count", Check.site(log, SIX + "{"), -19);
  }

  private static void noSlotAnyMore() {
    Check.sentence("a byte behind { with which there can be no slot any more;");
    fault("{}", 1);
    fault("{q}", 1);
    fault("{D}", 1);
    fault("{ d}", 1);
    fault("{1}", 1);
    fault("a{b", 2);
    fault("{d }", 2);
    fault("{dd", 2);
    fault("{d1}", 2);
    fault("{d{", 2);
    fault("{d{{", 2);
    fault("{u{", 2);
    fault("{x0}", 2);
    fault("{tt}", 2);
    fault("{f1 }", 3);
    fault("{f11}", 3);
    fault("{e0{", 3);
    fault("{e77}", 3);
    fault("{{{q", 3);
  }

  private static void digits() {
    fault("{f}", 2);
    fault("{e}", 2);
    for (int b = 32; b <= 126; b++) {
      String digit = "" + (char) b;
      if (b >= '1' && b <= '6') {
        right("{f" + digit + "}");
      } else {
        fault("{f" + digit + "}", 2);
      }
      if (b >= '0' && b <= '7') {
        right("{e" + digit + "}");
      } else {
        fault("{e" + digit + "}", 2);
      }
    }
  }

  private static void lonelyEnd() {
    Check.sentence("one behind a } that is no } (and did not end a slot);");
    fault("}x", 1);
    fault("} }", 1);
    fault("}{", 1);
    fault("}{{", 1);
    fault("x}{", 2);
    fault("{d}}x", 4);
    fault("{d}}{d}", 4);
    fault("}}}x", 3);
    fault("{{}x", 3);
    right("{d}x");
    right("{d}{d}");
    right("{d}}}x");
    right("}}x");
    fault(SIX + "}x", 19);
    right(SIX + "}}");
  }

  private static void missing() {
    Check.sentence("the end (at its size) where something is missing.");
    fault("{", 1);
    fault("}", 1);
    fault("{d", 2);
    fault("{u", 2);
    fault("{x", 2);
    fault("{t", 2);
    fault("{f", 2);
    fault("{e", 2);
    fault("{f1", 3);
    fault("{e7", 3);
    fault("{{{", 3);
    fault("{{}", 3);
    fault("}}}", 3);
    fault("{d}}", 4);
    fault(SIX + "}", 19);
    fault("x".repeat(78) + "{", 79);
    fault("x".repeat(79) + "{", 80);
    fault("x".repeat(79) + "}", 80);
    fault("x".repeat(78) + "{d", 80);
    fault("x".repeat(77) + "{f6", 80);
  }

  /** Each fault's bytes stand before each other one's: the place is that of the first. */
  private static void firstFaultCounts() {
    Check.sentence("FAULTS, the first one counts:");
    String[] faults = {"\t", "\u007f", "{q", "{d1", "{f0", "{f1x", "{e8", "}x", "} "};
    int[] behind = {0, 0, 1, 2, 2, 3, 2, 1, 1};
    String[] later = {"\t", "{q", "{f7", "}x", "{", "}", "{d", "x".repeat(90), SIX + "{d}"};
    for (int k = 0; k < faults.length; k++) {
      for (String other : later) {
        fault("ab" + faults[k] + other, 2 + behind[k]);
        fault(SIX + faults[k] + other, 18 + (faults[k].startsWith("}") ? 1 : 0));
      }
    }
    fault(SIX + "{d}\t", 18);
    fault(SIX + "\t{d}", 18);
    fault(SIX + "a\t{d}", 19);
    fault("x".repeat(80) + "\t", 80);
  }

  private static void placesMadeNegative() {
    Check.sentence("or, less 1, the place of its fault, made negative (-1 for a fault at 0).");
    Check.due("at 0", Check.site(new Counted(), "\n"), -1);
    Check.due("at 1", Check.site(new Counted(), "}a"), -2);
    Check.due("at 79", Check.site(new Counted(), "x".repeat(79) + "\n"), -80);
    Check.due("at 80", Check.site(new Counted(), "x".repeat(80) + "\n"), -81);
    Counted log = new Counted();
    Check.site(log, "}a");
    Check.due("it made no site", Check.site(log, "a"), 0);
  }

  private static void numbers() {
    Check.sentence("The text is taken as a format: its site's number (the one that it has already, if it has);");
    Counted log = new Counted();
    for (int k = 0; k < 5; k++) {
      Check.due("a new site", Check.site(log, "site " + k), k);
      Check.due("the same again", Check.site(log, "site " + k), k);
      Check.due("the first again", Check.site(log, "site 0"), 0);
    }
    log.rotate();
    Check.due("sites stay", Check.site(log, "site 3"), 3);
  }

  private static void fortySites() {
    Check.sentence("UnsupportedOperationException when there are 40 sites, and it is right and of none.");
    Counted log = new Counted();
    for (int k = 0; k < 39; k++) {
      Check.due("a new site", Check.site(log, "site " + k), k);
    }
    Check.due("the 40th", Check.site(log, "site {d}"), 39);
    Check.refuses("the 41st", UnsupportedOperationException.class, log, x -> Check.site(x, "site {u}"));
    Check.refuses("the 41st", UnsupportedOperationException.class, log, x -> Check.site(x, "site 39"));
    Check.fails("the empty one is of none", UnsupportedOperationException.class, log::site);
    Check.due("the last that there is", Check.site(log, "site {d}"), 39);
    Check.due("the first that there is", Check.site(log, "site 0"), 0);
    Check.due("a fault is no 41st", Check.site(log, "site {"), -7);
    Check.due("a fault is no 41st", Check.site(log, "y".repeat(81)), -81);
    Check.due("all 40 can be logged", Check.log(log, 0, 39, 0, 1), 3);
  }

  private static void everyFormatIsOfItsOwn() {
    Check.sentence("SITES have numbers 0, 1, .. (40 at most), each a format of its own.");
    String[] formats = {
      "{f1}", "{f2}", "{e1}", "{e2}", "{d}", "{u}", "{x}", "{t}", "{{d}}", "", "{{", "}}", "d", "{d} ", " {d}", "{d}{d}", "{{{{", "f1", "{{f1}}"
    };
    Counted log = new Counted();
    for (int k = 0; k < formats.length; k++) {
      Check.due("site of " + formats[k], Check.site(log, formats[k]), k);
    }
    for (int k = 0; k < formats.length; k++) {
      Check.due("again, site of " + formats[k], Check.site(log, formats[k]), k);
    }
  }
}
