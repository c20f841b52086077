import java.util.ArrayList;
import java.util.List;
import java.util.Random;
import java.util.TreeMap;

/** All promises: random runs of at most 512 calls, each call answered as the model answers it. */
public final class ModelTest {
  private static final int RUNS = 4000;
  private static final String[] PIECES = {
    "{d}", "{u}", "{x}", "{t}", "{f1}", "{f3}", "{f6}", "{e0}", "{e1}", "{e7}", "{{", "}}", "a", "ab", " ", "=", "-", "0"
  };
  private static final int[] NUMBERS = {
    0, 1, -1, 2, 3, 31, 32, 59, 60, 61, -60, -61, 100, -5, 1000000, Integer.MAX_VALUE, Integer.MIN_VALUE, Integer.MIN_VALUE + 60
  };
  private static final long[] STEPS = {0, 0, 0, 1, 1, 2, 127, 128, 16383, 16384, 1L << 34, 1L << 61, -1};

  private final Random random;
  private final EventLog log = new EventLog();
  private final Model model = new Model();
  private final List<String> told = new ArrayList<>();
  private final List<String> slotsOfSites = new ArrayList<>();
  private final long[] times = new long[4];
  private int lines = 0;
  private boolean agreed = true;
  private static final TreeMap<String, Integer> OUTCOMES = new TreeMap<>();

  private ModelTest(long seed) {
    random = new Random(seed);
  }

  public static void main(String[] args) {
    for (int seed = 1; seed <= RUNS; seed++) {
      ModelTest test = new ModelTest(seed);
      test.run();
      List<String> last = test.told.subList(Math.max(0, test.told.size() - 20), test.told.size());
      Check.due("run of seed " + seed + ", which ended " + last + ",", test.agreed ? 1 : 0, 1);
      if (!test.agreed) {
        break;
      }
    }
    everyOutcomeWasMet();
    Check.end();
  }

  /** A test by chance proves little of what its chances never reach. */
  private static void everyOutcomeWasMet() {
    String[] due = {
      "site UnsupportedOperationException", "site fault", "site", "type", "name", "name NoSuchElementException",
      "name IllegalArgumentException", "arg", "arg UnsupportedOperationException", "text", "text IllegalArgumentException",
      "text UnsupportedOperationException", "log", "log NoSuchElementException", "log IllegalStateException",
      "log IllegalArgumentException", "log UnsupportedOperationException", "flush", "flush NoSuchElementException",
      "flush IllegalStateException", "flush UnsupportedOperationException", "rotate", "crash",
      "crash IllegalArgumentException", "crash IllegalStateException", "size", "byteOf", "byteOf IndexOutOfBoundsException",
      "damage", "damage IndexOutOfBoundsException", "open", "broken", "time", "time NoSuchElementException", "about",
      "about NoSuchElementException", "about IndexOutOfBoundsException", "length", "length NoSuchElementException", "letter",
      "letter NoSuchElementException", "letter IndexOutOfBoundsException", "where", "where IllegalArgumentException",
      "where UnsupportedOperationException", "search", "search IllegalArgumentException",
      "search UnsupportedOperationException", "clear", "find", "count", "distinct", "distinct IndexOutOfBoundsException"
    };
    for (String outcome : due) {
      Check.due("'" + outcome + "' was met", OUTCOMES.containsKey(outcome) ? 1 : 0, 1);
    }
  }

  /** Makes one call of both; the answer, or -1 for an exception. */
  private long both(String call, Check.Call real, Check.Call due) {
    if (told.size() >= 512 || !agreed) {
      return -1;
    }
    String got = Check.outcome(real);
    String want = Check.outcome(due);
    told.add(call + " -> " + got);
    agreed = got.equals(want);
    if (!agreed) {
      told.add("due is " + want);
    }
    String method = call.substring(0, call.indexOf('('));
    boolean isFault = method.equals("site") && want.startsWith("-");
    OUTCOMES.merge(want.endsWith("Exception") ? method + " " + want : isFault ? "site fault" : method, 1, Integer::sum);
    return want.endsWith("Exception") ? -1 : Long.parseLong(want);
  }

  private int pick(int... from) {
    return from[random.nextInt(from.length)];
  }

  private boolean chance(int percent) {
    return random.nextInt(100) < percent;
  }

  private void run() {
    boolean manySites = chance(5);
    boolean fullFile = chance(10);
    int sites = manySites ? 44 : 1 + random.nextInt(4);
    for (int k = 0; k < sites; k++) {
      site(manySites ? "s" + k : format());
    }
    for (int k = 0; k < 10000 && told.size() < 512 && agreed; k++) {
      if (fullFile && told.size() < 300) {
        log(chance(50), 95);
        both("flush(0)", () -> log.flush(0), () -> model.flush(0));
      } else {
        step();
      }
    }
  }

  private void step() {
    int kind = random.nextInt(100);
    if (kind < 45) {
      log(chance(95), 90);
    } else if (kind < 53) {
      int writer = chance(95) ? random.nextInt(4) : pick(-1, 4, 99);
      both("flush(" + writer + ")", () -> log.flush(writer), () -> model.flush(writer));
    } else if (kind < 63) {
      spoil();
    } else if (kind < 70) {
      open();
    } else if (kind < 80) {
      lookAtLine();
    } else if (kind < 92) {
      ask();
    } else {
      seldom();
    }
  }

  private String format() {
    StringBuilder format = new StringBuilder();
    int pieces = random.nextInt(8);
    for (int k = 0; k < pieces; k++) {
      format.append(PIECES[random.nextInt(PIECES.length)]);
    }
    if (chance(20)) {
      int place = random.nextInt(format.length() + 1);
      format.insert(place, (char) pick('{', '}', 'x', '\t', 127, 255, '0', '8', 'f', 'e', 't'));
    }
    if (chance(3)) {
      format.append("y".repeat(70 + random.nextInt(30)));
    }
    return format.toString();
  }

  private void type(String text) {
    for (int from = 0; from < text.length(); from += 8) {
      long word = chance(50) ? 0 : random.nextLong();
      int n = Math.min(8, text.length() - from);
      for (int k = 0; k < n; k++) {
        word = word & ~(255L << (8 * k)) | (long) text.charAt(from + k) << (8 * k);
      }
      type(word, n);
    }
  }

  private void type(long w, int n) {
    both("type(" + w + ", " + n + ")", () -> log.type(w, n) ? 1 : 0, () -> model.type(w, n) ? 1 : 0);
  }

  private void site(String format) {
    type(format);
    long number = both("site()", log::site, model::site);
    if (number == slotsOfSites.size()) {
      slotsOfSites.add(format.replace("{{", "").replace("}}", "").replaceAll("\\{(.)[0-9]?\\}", "<$1>"));
    }
  }

  private String randomText(int most) {
    StringBuilder text = new StringBuilder();
    int size = random.nextInt(most + 1);
    for (int k = 0; k < size; k++) {
      text.append((char) (chance(70) ? pick('a', 'b', ' ', '0', '{', '}', 'd') : random.nextInt(256)));
    }
    return text.toString();
  }

  private int number() {
    return chance(70) ? pick(NUMBERS) : chance(50) ? random.nextInt(100) - 50 : random.nextInt();
  }

  private void argument(boolean isText) {
    if (isText) {
      type(randomText(chance(95) ? 16 : 24));
      both("text()", log::text, model::text);
    } else {
      int x = number();
      both("arg(" + x + ")", () -> log.arg(x), () -> model.arg(x));
    }
  }

  private void log(boolean rightSite, int rightArguments) {
    int site = rightSite && !slotsOfSites.isEmpty() ? random.nextInt(slotsOfSites.size()) : pick(-1, 0, 1, 5, 39, 40);
    if (site >= 0 && site < slotsOfSites.size()) {
      String format = slotsOfSites.get(site);
      for (int k = format.indexOf('<'); k >= 0; k = format.indexOf('<', k + 1)) {
        if (chance(rightArguments + 9)) {
          argument(format.charAt(k + 1) == 't');
        }
      }
    }
    if (!chance(rightArguments + 9)) {
      argument(chance(50));
    }
    int writer = chance(97) ? random.nextInt(random.nextInt(4) + 1) : pick(-1, 4);
    long before = times[writer & 3];
    long time = chance(95) ? before + STEPS[random.nextInt(random.nextInt(STEPS.length) + 1)] : random.nextLong();
    long used = both("log(" + writer + ", " + site + ", " + time + ")",
        () -> log.log(writer, site, time), () -> model.log(writer, site, time));
    if (used >= 0) {
      times[writer] = time;
    }
  }

  private void open() {
    lines = (int) Math.max(0, both("open()", log::open, model::open));
    both("broken()", log::broken, model::broken);
  }

  private void damage(int i, int b) {
    both("damage(" + i + ", " + b + ")", () -> {
      log.damage(i, b);
      return 0;
    }, () -> {
      model.damage(i, b);
      return 0;
    });
  }

  /** Spoils a byte of the file; mostly its sum is made right again, so that the reader looks further. */
  private void spoil() {
    if (model.size() == 0 || chance(5)) {
      damage(pick(-1, model.size(), model.size() - 1, Integer.MAX_VALUE), random.nextInt());
      return;
    }
    int block = random.nextInt((model.size() + 255) / 256);
    int place = chance(25) ? random.nextInt(14) : chance(20) ? random.nextInt(256) : 14 + random.nextInt(30);
    int value = place == 13 ? pick(0, 1, 2, 20, 100, 237, 238, 239) : place == 1 ? random.nextInt(6)
        : chance(50) ? pick(0, 1, 2, 3, 4, 64, 63, 65, 124, 125, 127, 128, 254, 255, 16, 17) : random.nextInt(256);
    damage(256 * block + place, value);
    if (chance(85) && 256 * block + 256 <= model.size()) {
      int sum = model.sumOf(block);
      for (int k = 0; k < 4; k++) {
        damage(256 * block + 252 + k, sum >>> (24 - 8 * k));
      }
      open();
    }
  }

  private int line() {
    return chance(5) || lines == 0 ? pick(-1, lines, Integer.MIN_VALUE) : random.nextInt(lines);
  }

  private void lookAtLine() {
    int line = line();
    both("time(" + line + ")", () -> log.time(line), () -> model.time(line));
    int what = pick(-2, -1, 0, 1, 2, 3, 4, 5, -3, 6);
    both("about(" + line + ", " + what + ")", () -> log.about(line, what), () -> model.about(line, what));
    long length = both("length(" + line + ")", () -> log.length(line), () -> model.length(line));
    for (int k = 0; k < 6; k++) {
      int i = chance(90) && length > 0 ? random.nextInt((int) length) : pick(-1, 0, (int) length, 200);
      both("letter(" + line + ", " + i + ")", () -> log.letter(line, i), () -> model.letter(line, i));
    }
  }

  private void ask() {
    if (chance(40)) {
      both("clear()", log::clear, model::clear);
    }
    int terms = random.nextInt(3);
    for (int k = 0; k < terms; k++) {
      if (chance(30)) {
        type(randomText(chance(95) ? 2 : 30));
        both("search()", log::search, model::search);
      } else {
        int kind = chance(95) ? random.nextInt(4) : pick(-1, 4);
        int a = chance(90) ? random.nextInt(3) : pick(-1, 5, 6, Integer.MAX_VALUE, Integer.MIN_VALUE);
        int b = number();
        both("where(" + kind + ", " + a + ", " + b + ")", () -> log.where(kind, a, b), () -> model.where(kind, a, b));
      }
    }
    both("count()", log::count, model::count);
    int from = line();
    both("find(" + from + ")", () -> log.find(from), () -> model.find(from));
    int slot = chance(95) ? random.nextInt(3) : pick(-1, 5, 6);
    both("distinct(" + slot + ")", () -> log.distinct(slot), () -> model.distinct(slot));
  }

  private void seldom() {
    int kind = random.nextInt(10);
    if (kind < 3) {
      type(chance(80) ? "name" + random.nextInt(10) : randomText(16));
      int table = pick(0, 1, 7, 0, 1, 7, -1, 8);
      int code = pick(0, 1, 2, 3, 31, -1, 32);
      both("name(" + table + ", " + code + ")", () -> {
        log.name(table, code);
        return 0;
      }, () -> {
        model.name(table, code);
        return 0;
      });
    } else if (kind < 5) {
      site(format());
    } else if (kind < 6) {
      crashAndRotate();
    } else if (kind < 7) {
      type(random.nextLong(), random.nextInt(12) - 1);
    } else if (kind < 8) {
      argument(chance(50));
    } else {
      both("size()", log::size, model::size);
      int i = chance(80) && model.size() > 0 ? random.nextInt(model.size()) : pick(-1, model.size());
      both("byteOf(" + i + ")", () -> log.byteOf(i), () -> model.byteOf(i));
    }
  }

  private void crashAndRotate() {
    int n = chance(90) ? random.nextInt(600) : pick(-1, Integer.MAX_VALUE, Integer.MIN_VALUE);
    both("crash(" + n + ")", () -> log.crash(n), () -> model.crash(n));
    open();
    for (int k = 0; k < 4; k++) {
      step();
    }
    both("rotate()", () -> {
      log.rotate();
      return 0;
    }, () -> {
      model.rotate();
      return 0;
    });
    java.util.Arrays.fill(times, 0);
  }
}
