import java.util.ArrayList;
import java.util.List;

/**
 * Two objects of the same calls, one of which has had a call more that should have changed nothing: whatever is asked of
 * them, they answer alike. Some questions spoil what others ask for, so each has two objects of its own.
 */
final class Twins {
  private interface Question {
    void ask(Counted log, List<String> answers);
  }

  /** The sites of an object that was made busy. */
  static final int EMPTY = 0;
  static final int NUMBER_AND_TEXT = 1;
  static final int CODE = 2;
  static final int SIX_TEXTS = 3;
  static final int SITES = 4;

  private Twins() {}

  static void unchanged(String what, Check.Steps before, Check.Steps more) {
    ask(what + ": the file", before, more, Twins::askFile);
    ask(what + ": the lines", before, more, Twins::askLines);
    ask(what + ": the lines when it is read", before, more, Twins::askLinesReadAnew);
    ask(what + ": the terms", before, more, Twins::askTerms);
    ask(what + ": the text", before, more, Twins::askText);
    ask(what + ": the text's size", before, more, Twins::askTextSize);
    ask(what + ": the arguments", before, more, Twins::askArguments);
    ask(what + ": how many arguments", before, more, (log, answers) -> add(answers, () -> log.arg(1)));
    ask(what + ": the writers", before, more, Twins::askWriters);
    ask(what + ": the last numbers", before, more, Twins::askLastNumbers);
    ask(what + ": what is durable", before, more, Twins::askDurable);
    ask(what + ": the sites", before, more, Twins::askSites);
  }

  static void refused(String what, Class<? extends RuntimeException> due, Check.Steps before, Check.Steps call) {
    unchanged(what, before, log -> Check.refuses(what, due, log, call));
  }

  private static void ask(String what, Check.Steps before, Check.Steps more, Question question) {
    Counted one = new Counted();
    Counted other = new Counted();
    before.on(one);
    before.on(other);
    more.on(other);
    List<String> answers = new ArrayList<>();
    List<String> others = new ArrayList<>();
    question.ask(one, answers);
    question.ask(other, others);
    Check.due(what, others.toString(), answers.toString());
  }

  private static void add(List<String> answers, Check.Call call) {
    answers.add(Check.outcome(call));
  }

  private static void add(List<String> answers, Counted log, Check.Steps call) {
    add(answers, () -> {
      call.on(log);
      return 0;
    });
  }

  private static void askFile(Counted log, List<String> answers) {
    int size = log.size();
    answers.add(Integer.toString(size));
    int[] places = {0, 1, 3, 11, 13, 14, 15, 16, 255};
    for (int block = 0; block <= size / 256; block++) {
      for (int place : places) {
        int at = 256 * block + place;
        add(answers, () -> log.byteOf(at));
      }
    }
  }

  private static void askLines(Counted log, List<String> answers) {
    add(answers, log::broken);
    add(answers, log::count);
    for (int k = 0; k < 6; k++) {
      int slot = k;
      add(answers, () -> log.find(slot));
      add(answers, () -> log.distinct(slot));
    }
    for (int k = 0; k < 5; k++) {
      int line = k;
      add(answers, () -> log.time(line));
      for (int w = -2; w <= 5; w++) {
        int what = w;
        add(answers, () -> log.about(line, what));
      }
      add(answers, () -> log.length(line));
      for (int i = 0; i < 8; i++) {
        int place = i;
        add(answers, () -> log.letter(line, place));
      }
    }
  }

  private static void askLinesReadAnew(Counted log, List<String> answers) {
    add(answers, log::open);
    askLines(log, answers);
  }

  private static void askTerms(Counted log, List<String> answers) {
    add(answers, log::count);
    add(answers, log::clear);
    add(answers, log::count);
    add(answers, () -> log.where(0, 0, 0));
  }

  /** The text becomes the name of a code, which a line has. */
  private static void askText(Counted log, List<String> answers) {
    add(answers, log, x -> x.name(7, 31));
    askLines(log, answers);
  }

  private static void askTextSize(Counted log, List<String> answers) {
    for (int k = 0; k < 26; k++) {
      add(answers, () -> log.type(0, 8) ? 1 : 0);
    }
    for (int k = 0; k < 8; k++) {
      add(answers, () -> log.type(0, 1) ? 1 : 0);
    }
  }

  private static void askNewestBlock(Counted log, List<String> answers) {
    int from = Math.max(0, log.size() - 256);
    for (int k = 0; k < 24; k++) {
      int place = from + k;
      add(answers, () -> log.byteOf(place));
    }
  }

  private static void askArguments(Counted log, List<String> answers) {
    add(answers, () -> log.log(3, NUMBER_AND_TEXT, 99));
    add(answers, () -> log.flush(3));
    askNewestBlock(log, answers);
  }

  /** Times that rise tell the last one. */
  private static void askWriters(Counted log, List<String> answers) {
    add(answers, () -> log.log(-1, 0, 0));
    add(answers, log, x -> x.name(-1, 0));
    for (int w = 0; w < 4; w++) {
      int writer = w;
      for (int t = 0; t < 9; t++) {
        int time = t;
        add(answers, () -> log.log(writer, EMPTY, time));
      }
      add(answers, () -> log.flush(writer));
      askNewestBlock(log, answers);
    }
  }

  /** How an event is packed tells the last of its numbers. */
  private static void askLastNumbers(Counted log, List<String> answers) {
    add(answers, () -> log.log(-1, 0, 0));
    add(answers, log, x -> x.name(-1, 0));
    for (int w = 0; w < 4; w++) {
      int writer = w;
      add(answers, () -> Check.log(log, writer, NUMBER_AND_TEXT, 9, 50, "b"));
      add(answers, () -> Check.log(log, writer, CODE, 9, 50, 60));
      add(answers, () -> log.flush(writer));
      askNewestBlock(log, answers);
    }
  }

  private static void askDurable(Counted log, List<String> answers) {
    add(answers, () -> log.crash(3));
    add(answers, () -> log.crash(3));
    add(answers, log::size);
    askLinesReadAnew(log, answers);
  }

  private static void askSites(Counted log, List<String> answers) {
    add(answers, log, x -> x.name(-1, 0));
    add(answers, () -> Check.site(log, "brand new"));
    add(answers, () -> Check.site(log, "{d}{t}"));
    add(answers, () -> Check.site(log, "newer still"));
  }

  static int logSixTexts(Counted log, int writer, long time) {
    String text = "y".repeat(16);
    return Check.log(log, writer, SIX_TEXTS, time, text, text, text, text, text, text);
  }

  private static void tellSites(Counted log) {
    log.site();
    Check.site(log, "{d}{t}");
    Check.site(log, "{e7}:{u}");
    Check.site(log, "{t}{t}{t}{t}{t}{t}");
    Check.name(log, 7, 30, "thirty");
  }

  /** A durable block of writer 0, one of writer 1 that is not; events in the blocks of both and of writer 2; lines; a term. */
  static void makeBusy(Counted log) {
    tellSites(log);
    Check.log(log, 0, NUMBER_AND_TEXT, 2, 5, "ab");
    Check.log(log, 0, CODE, 2, 31, -1);
    Check.log(log, 0, CODE, 4, 30, -1);
    log.flush(0);
    Check.log(log, 0, NUMBER_AND_TEXT, 4, 20, "c");
    for (int k = 0; k < 3; k++) {
      logSixTexts(log, 1, 3 + k);
    }
    Check.log(log, 2, NUMBER_AND_TEXT, 6, 40, "");
    log.open();
    log.damage(300, 77);
    log.where(1, 0, 0);
  }

  static void busyWithText(Counted log) {
    makeBusy(log);
    Check.type(log, "left");
  }

  static void busyWithArguments(Counted log) {
    makeBusy(log);
    Check.give(log, 9, "q");
  }

  static void busyWithBoth(Counted log) {
    busyWithArguments(log);
    Check.type(log, "left");
  }

  static void cut(Counted log) {
    makeBusy(log);
    log.crash(1);
  }

  static void cutWithBoth(Counted log) {
    busyWithBoth(log);
    log.crash(1);
  }

  /** 23 durable blocks and one that is not; writer 1 has no room in its own for an event of six texts. */
  static void fillFile(Counted log) {
    tellSites(log);
    for (int k = 0; k < 23; k++) {
      log.log(0, EMPTY, 2);
      log.flush(0);
    }
    for (int k = 0; k < 4; k++) {
      logSixTexts(log, 1, 3);
    }
    Check.due("a full file", log.size(), 24 * 256);
  }

  static void fillFileAndType(Counted log) {
    fillFile(log);
    Check.give(log, 9, "q");
    Check.type(log, "left");
  }
}
