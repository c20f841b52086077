import java.io.ByteArrayOutputStream;
import java.math.BigDecimal;
import java.math.BigInteger;
import java.nio.ByteBuffer;
import java.util.ArrayList;
import java.util.Arrays;
import java.util.Comparator;
import java.util.HashMap;
import java.util.HashSet;
import java.util.List;
import java.util.Map;
import java.util.NoSuchElementException;
import java.util.Set;

/** The document once more, by other means: whole blocks are packed anew at each call, texts are Strings, sets are sets. */
final class Model {
  private record Event(int writer, int site, long time, List<Object> values) {}

  private record Term(int kind, int a, int b, String text) {}

  private static final class Broken extends Exception {
    private static final long serialVersionUID = 1;
  }

  private static final List<String> SLOTS =
      List.of("{d}", "{u}", "{x}", "{t}", "{f1}", "{f2}", "{f3}", "{f4}", "{f5}", "{f6}",
          "{e0}", "{e1}", "{e2}", "{e3}", "{e4}", "{e5}", "{e6}", "{e7}");

  private String text = "";
  private final List<String> formats = new ArrayList<>();
  private final Map<String, String> names = new HashMap<>();
  private List<Object> arguments = new ArrayList<>();
  private final List<List<Event>> blocks = new ArrayList<>();
  private final long[] lastTimes = new long[4];
  private final int[] written = new int[4];
  private byte[] file = {};
  private int durable = 0;
  private boolean cut = false;
  private List<Event> lines = new ArrayList<>();
  private int brokenBlocks = 0;
  private final List<Term> terms = new ArrayList<>();

  Model() {
    for (int k = 0; k < 4; k++) {
      blocks.add(new ArrayList<>());
    }
  }

  boolean type(long w, int n) {
    if (n < 1 || n > 8 || text.length() + n > 200) {
      return false;
    }
    byte[] bytes = ByteBuffer.allocate(8).putLong(Long.reverseBytes(w)).array();
    for (int k = 0; k < n; k++) {
      text += (char) (bytes[k] & 255);
    }
    return true;
  }

  private String takeText() {
    String taken = text;
    text = "";
    return taken;
  }

  /** The pieces of a format up to its first fault; then, if there is one, its place as an Integer. */
  private static List<Object> pieces(String format) {
    int limit = 0;
    while (limit < format.length() && limit < 80 && format.charAt(limit) >= 32 && format.charAt(limit) <= 126) {
      limit++;
    }
    List<Object> pieces = new ArrayList<>();
    int slots = 0;
    int at = 0;
    while (at < format.length()) {
      String rest = format.substring(at);
      String piece = pieceAtStart(rest);
      boolean isSlot = piece != null && SLOTS.contains(piece);
      if (piece == null || (isSlot && slots == 6)) {
        int fault = rest.startsWith("{") && slots == 6 ? at : at + partial(rest);
        pieces.add(Math.min(fault, limit));
        return pieces;
      }
      slots += isSlot ? 1 : 0;
      pieces.add(piece);
      at += piece.length();
    }
    if (limit < format.length()) {
      pieces.add(limit);
    }
    return pieces;
  }

  private static String pieceAtStart(String rest) {
    for (String slot : SLOTS) {
      if (rest.startsWith(slot)) {
        return slot;
      }
    }
    if (rest.startsWith("{{") || rest.startsWith("}}")) {
      return rest.substring(0, 2);
    }
    return rest.startsWith("{") || rest.startsWith("}") ? null : rest.substring(0, 1);
  }

  private static int partial(String rest) {
    int most = 1;
    for (String slot : SLOTS) {
      int same = 0;
      while (same < slot.length() && same < rest.length() && slot.charAt(same) == rest.charAt(same)) {
        same++;
      }
      most = Math.max(most, same);
    }
    return most;
  }

  private List<String> slotsOf(int site) {
    List<String> slots = new ArrayList<>();
    for (Object piece : pieces(formats.get(site))) {
      if (SLOTS.contains(piece)) {
        slots.add((String) piece);
      }
    }
    return slots;
  }

  int site() {
    String format = takeText();
    List<Object> pieces = pieces(format);
    if (!pieces.isEmpty() && pieces.get(pieces.size() - 1) instanceof Integer place) {
      return -place - 1;
    }
    if (!formats.contains(format)) {
      if (formats.size() == 40) {
        throw new UnsupportedOperationException();
      }
      formats.add(format);
    }
    return formats.indexOf(format);
  }

  void name(int table, int code) {
    String name = takeText();
    if (table < 0 || table > 7 || code < 0 || code > 31) {
      throw new NoSuchElementException();
    }
    if (!name.matches("[ -~]{1,12}")) {
      throw new IllegalArgumentException();
    }
    names.put(table + "/" + code, name);
  }

  int arg(int x) {
    return give(x);
  }

  int text() {
    String given = takeText();
    if (given.length() > 16) {
      throw new IllegalArgumentException();
    }
    return give(given);
  }

  private int give(Object argument) {
    if (arguments.size() == 6) {
      throw new UnsupportedOperationException();
    }
    arguments.add(argument);
    return arguments.size();
  }

  int log(int writer, int site, long time) {
    List<Object> given = arguments;
    arguments = new ArrayList<>();
    if (writer < 0 || writer > 3 || site < 0 || site >= formats.size()) {
      throw new NoSuchElementException();
    }
    if (cut) {
      throw new IllegalStateException();
    }
    if (!suits(given, slotsOf(site)) || time < 0 || time < lastTimes[writer]) {
      throw new IllegalArgumentException();
    }
    Event event = new Event(writer, site, time, given);
    List<Event> block = new ArrayList<>(blocks.get(writer));
    block.add(event);
    if (pack(block).length > 238) {
      goToFile(writer);
      block = new ArrayList<>(List.of(event));
    }
    blocks.set(writer, block);
    lastTimes[writer] = time;
    return pack(block).length;
  }

  private static boolean suits(List<Object> given, List<String> slots) {
    if (given.size() != slots.size()) {
      return false;
    }
    for (int k = 0; k < given.size(); k++) {
      if (given.get(k) instanceof String != slots.get(k).equals("{t}")) {
        return false;
      }
    }
    return true;
  }

  private static byte[] pack(List<Event> block) {
    ByteArrayOutputStream out = new ByteArrayOutputStream();
    for (int k = 0; k < block.size(); k++) {
      Event event = block.get(k);
      Event sameSite = null;
      for (int j = 0; j < k; j++) {
        sameSite = block.get(j).site == event.site ? block.get(j) : sameSite;
      }
      packVar(out, event.site);
      packVar(out, k == 0 ? 0 : event.time - block.get(k - 1).time);
      for (int slot = 0; slot < event.values.size(); slot++) {
        if (event.values.get(slot) instanceof String string) {
          out.write(string.length());
          string.chars().forEach(out::write);
        } else {
          packNumber(out, (Integer) event.values.get(slot), sameSite == null ? 0 : (Integer) sameSite.values.get(slot));
        }
      }
    }
    return out.toByteArray();
  }

  private static void packVar(ByteArrayOutputStream out, long value) {
    BigInteger rest = BigInteger.valueOf(value);
    int groups = Math.max(1, (rest.bitLength() + 6) / 7);
    for (int k = 0; k < groups; k++) {
      int seven = rest.shiftRight(7 * k).intValue() & 127;
      out.write(k + 1 < groups ? seven + 128 : seven);
    }
  }

  private static void packNumber(ByteArrayOutputStream out, int x, int last) {
    int step = x - last;
    if (step == 0) {
      out.write(0);
    } else if (step >= -60 && step <= 60) {
      out.write(64 + step);
    } else {
      out.write(255);
      out.writeBytes(ByteBuffer.allocate(4).putInt(x).array());
    }
  }

  private void goToFile(int writer) {
    if (file.length == 24 * 256) {
      throw new UnsupportedOperationException();
    }
    byte[] events = pack(blocks.get(writer));
    ByteBuffer block = ByteBuffer.allocate(256);
    block.put((byte) 90).put((byte) writer).putShort((short) written[writer]);
    block.putLong(blocks.get(writer).get(0).time).putShort((short) events.length).put(events);
    block.putInt(252, sum(block.array()));
    file = Arrays.copyOf(file, file.length + 256);
    System.arraycopy(block.array(), 0, file, file.length - 256, 256);
    written[writer]++;
    blocks.set(writer, new ArrayList<>());
  }

  private static int sum(byte[] block) {
    BigInteger sum = BigInteger.ZERO;
    for (int k = 0; k < 252; k++) {
      sum = sum.multiply(BigInteger.valueOf(31)).add(BigInteger.valueOf(block[k] & 255));
    }
    return sum.intValue();
  }

  /** The sum that a block of the file should have. */
  int sumOf(int block) {
    return sum(Arrays.copyOfRange(file, 256 * block, 256 * block + 256));
  }

  int flush(int writer) {
    if (writer < 0 || writer > 3) {
      throw new NoSuchElementException();
    }
    if (cut) {
      throw new IllegalStateException();
    }
    if (!blocks.get(writer).isEmpty()) {
      goToFile(writer);
    }
    durable = file.length;
    return file.length / 256;
  }

  private void emptyBlocks() {
    for (int k = 0; k < 4; k++) {
      blocks.set(k, new ArrayList<>());
    }
  }

  void rotate() {
    emptyBlocks();
    file = new byte[0];
    durable = 0;
    cut = false;
    Arrays.fill(lastTimes, 0);
    Arrays.fill(written, 0);
  }

  int crash(int n) {
    if (n < 0) {
      throw new IllegalArgumentException();
    }
    if (cut) {
      throw new IllegalStateException();
    }
    emptyBlocks();
    file = Arrays.copyOf(file, (int) Math.min(file.length, (long) durable + n));
    cut = true;
    return file.length;
  }

  int size() {
    return file.length;
  }

  int byteOf(int i) {
    if (i < 0 || i >= file.length) {
      throw new IndexOutOfBoundsException();
    }
    return file[i] & 255;
  }

  void damage(int i, int b) {
    byteOf(i);
    file[i] = (byte) b;
  }

  int open() {
    lines = new ArrayList<>();
    brokenBlocks = 0;
    for (int at = 0; at < file.length; at += 256) {
      try {
        lines.addAll(read(Arrays.copyOfRange(file, at, Math.min(at + 256, file.length))));
      } catch (Broken e) {
        brokenBlocks++;
      }
    }
    lines.sort(Comparator.comparingLong(Event::time).thenComparingInt(Event::writer));
    return lines.size();
  }

  private static void must(boolean right) throws Broken {
    if (!right) {
      throw new Broken();
    }
  }

  private List<Event> read(byte[] bytes) throws Broken {
    must(bytes.length == 256);
    ByteBuffer block = ByteBuffer.wrap(bytes);
    int writer = block.get(1) & 255;
    int size = block.getShort(12) & 0xFFFF;
    must(block.get(0) == 90 && writer <= 3 && block.getLong(4) >= 0 && size <= 238 && block.getInt(252) == sum(bytes));
    ByteBuffer rest = ByteBuffer.wrap(bytes, 14, size);
    BigInteger time = BigInteger.valueOf(block.getLong(4));
    Map<Integer, Event> lasts = new HashMap<>();
    List<Event> events = new ArrayList<>();
    while (rest.hasRemaining()) {
      BigInteger site = readVar(rest);
      must(site.compareTo(BigInteger.valueOf(formats.size())) < 0);
      time = time.add(readVar(rest));
      must(time.bitLength() <= 63);
      Event last = lasts.get(site.intValue());
      Event event = new Event(writer, site.intValue(), time.longValueExact(), new ArrayList<>());
      for (String slot : slotsOf(event.site)) {
        int place = event.values.size();
        event.values.add(slot.equals("{t}") ? readText(rest) : readNumber(rest, last == null ? 0 : (Integer) last.values.get(place)));
      }
      lasts.put(event.site, event);
      events.add(event);
    }
    return events;
  }

  private static int readByte(ByteBuffer rest) throws Broken {
    must(rest.hasRemaining());
    return rest.get() & 255;
  }

  private static BigInteger readVar(ByteBuffer rest) throws Broken {
    BigInteger value = BigInteger.ZERO;
    int count = 0;
    int b;
    do {
      b = readByte(rest);
      value = value.add(BigInteger.valueOf(b & 127).shiftLeft(7 * count));
      count++;
    } while (b > 127);
    must(count <= 9 && (b != 0 || count == 1));
    return value;
  }

  private static Integer readNumber(ByteBuffer rest, int last) throws Broken {
    int code = readByte(rest);
    if (code == 255) {
      must(rest.remaining() >= 4);
      return rest.getInt();
    }
    must(code == 0 || (code >= 4 && code <= 124 && code != 64));
    return code == 0 ? last : last + code - 64;
  }

  private static String readText(ByteBuffer rest) throws Broken {
    int size = readByte(rest);
    must(size <= 16);
    StringBuilder read = new StringBuilder();
    for (int k = 0; k < size; k++) {
      read.append((char) readByte(rest));
    }
    return read.toString();
  }

  int broken() {
    return brokenBlocks;
  }

  private Event line(int line) {
    if (line < 0 || line >= lines.size()) {
      throw new NoSuchElementException();
    }
    return lines.get(line);
  }

  long time(int line) {
    return line(line).time;
  }

  int about(int line, int what) {
    Event event = line(line);
    if (what == -2) {
      return event.writer;
    }
    if (what == -1) {
      return event.site;
    }
    if (what < 0 || what > 5) {
      throw new IndexOutOfBoundsException();
    }
    if (what >= event.values.size()) {
      throw new NoSuchElementException();
    }
    Object value = event.values.get(what);
    return value instanceof String string ? string.length() : (Integer) value;
  }

  String print(Event event) {
    StringBuilder printed = new StringBuilder();
    int slot = 0;
    for (Object piece : pieces(formats.get(event.site))) {
      if (SLOTS.contains(piece)) {
        printed.append(printSlot((String) piece, event.values.get(slot)));
        slot++;
      } else {
        printed.append(((String) piece).charAt(0));
      }
    }
    return printed.toString();
  }

  private String printSlot(String slot, Object value) {
    if (value instanceof String string) {
      return string;
    }
    int x = (Integer) value;
    switch (slot.charAt(1)) {
      case 'u':
        return Integer.toUnsignedString(x);
      case 'x':
        return Integer.toHexString(x);
      case 'f':
        return BigDecimal.valueOf(x, slot.charAt(2) - '0').toPlainString();
      case 'e':
        return names.getOrDefault(slot.charAt(2) + "/" + x, Integer.toString(x));
      default:
        return Integer.toString(x);
    }
  }

  int length(int line) {
    return print(line(line)).length();
  }

  int letter(int line, int i) {
    String printed = print(line(line));
    if (i < 0 || i >= printed.length()) {
      throw new IndexOutOfBoundsException();
    }
    return printed.charAt(i);
  }

  int where(int kind, int a, int b) {
    if (kind < 0 || kind > 3) {
      throw new IllegalArgumentException();
    }
    return add(new Term(kind, a, b, ""));
  }

  int search() {
    String searched = takeText();
    if (searched.isEmpty() || searched.length() > 24) {
      throw new IllegalArgumentException();
    }
    return add(new Term(4, 0, 0, searched));
  }

  private int add(Term term) {
    if (terms.size() == 4) {
      throw new UnsupportedOperationException();
    }
    terms.add(term);
    return terms.size();
  }

  int clear() {
    int had = terms.size();
    terms.clear();
    return had;
  }

  private static boolean hasNumber(Event event, int slot) {
    return slot >= 0 && slot < event.values.size() && event.values.get(slot) instanceof Integer;
  }

  private boolean holds(Event event) {
    return terms.stream().allMatch(term -> switch (term.kind) {
      case 0 -> event.site == term.a;
      case 1 -> event.writer == term.a;
      case 2 -> hasNumber(event, term.a) && (Integer) event.values.get(term.a) >= term.b;
      case 3 -> hasNumber(event, term.a) && (Integer) event.values.get(term.a) <= term.b;
      default -> print(event).contains(term.text);
    });
  }

  int find(int from) {
    for (int k = 0; k < lines.size(); k++) {
      if (k >= from && holds(lines.get(k))) {
        return k;
      }
    }
    return -1;
  }

  int count() {
    return (int) lines.stream().filter(this::holds).count();
  }

  int distinct(int slot) {
    if (slot < 0 || slot > 5) {
      throw new IndexOutOfBoundsException();
    }
    Set<Object> numbers = new HashSet<>();
    lines.stream().filter(event -> hasNumber(event, slot) && holds(event)).forEach(event -> numbers.add(event.values.get(slot)));
    return numbers.size();
  }
}
