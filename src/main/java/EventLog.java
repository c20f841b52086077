import java.util.ArrayList;
import java.util.Arrays;
import java.util.NoSuchElementException;

/**
 * An event log: formats told once, events packed into blocks, blocks kept in a file that may be cut
 * or damaged, and a reader that merges, prints and queries what is whole.
 *
 * <p>Bytes are held as ints 0 .. 255 throughout, so that none of them needs a mask when it is read.
 * All large rows are made once, with the object, and used again by every call.
 */
public final class EventLog {
  private static final int TYPED_MOST = 200;
  private static final int FORMAT_MOST = 80;
  private static final int SITES_MOST = 40;
  private static final int SLOTS_MOST = 6;
  private static final int TABLES = 8;
  private static final int CODES = 32;
  private static final int NAME_MOST = 12;
  private static final int TEXT_MOST = 16;
  private static final int WRITERS = 4;
  private static final int TERMS_MOST = 4;
  private static final int SEARCH_MOST = 24;

  private static final int BLOCK = 256;
  private static final int BLOCKS_MOST = 24;
  private static final int FILE_MOST = BLOCK * BLOCKS_MOST;
  private static final int MARK = 90;
  private static final int WRITER_AT = 1;
  private static final int NUMBER_AT = 2;
  private static final int TIME_AT = 4;
  private static final int USED_AT = 12;
  private static final int EVENTS_AT = 14;
  private static final int SUM_AT = 252;
  private static final int ROOM = SUM_AT - EVENTS_AT;

  private static final int VAR_MOST = 9;
  private static final int SAME = 0;
  private static final int NEAR = 64;
  private static final int NEAR_MOST = 60;
  private static final int WHOLE = 255;

  /** The longest event: a site, a time, and six full texts with their sizes. */
  private static final int PACKED_MOST = 2 * VAR_MOST + SLOTS_MOST * (1 + TEXT_MOST);

  /** An event has at least two bytes: its site and its time. */
  private static final int LINES_MOST = BLOCKS_MOST * (ROOM / 2);

  /** A block has fewer slots than bytes: each has one at least, and their event two more. */
  private static final int VALUES_MOST = BLOCKS_MOST * ROOM;

  private static final int PRINTED_MOST = FORMAT_MOST + SLOTS_MOST * TEXT_MOST;

  /** A slot's kind is its letter times this, and its digit: so it is never taken for a plain byte. */
  private static final int KIND = 256;

  private static final int TEXT_KIND = 't' * KIND;
  private static final int NO_FAULT = -1;

  private static final int SITE_IS = 0;
  private static final int WRITER_IS = 1;
  private static final int NOT_BELOW = 2;
  private static final int NOT_ABOVE = 3;
  private static final int STANDS_IN = 4;

  private final Typed typed = new Typed();
  private final FormatReader formatReader = new FormatReader();
  private final ArrayList<Format> formats = new ArrayList<>();
  private final Names names = new Names();
  private final Arguments arguments = new Arguments();
  private final Writer[] writers = new Writer[WRITERS];
  private final BlockFile file = new BlockFile();
  private final Lines lines = new Lines(formats);
  private final Printer printer = new Printer(names);
  private final Query query = new Query();
  private final int[] different = new int[LINES_MOST];

  public EventLog() {
    for (int k = 0; k < WRITERS; k++) {
      writers[k] = new Writer(k);
    }
  }

  public boolean type(long w, int n) {
    return typed.add(w, n);
  }

  public int site() throws UnsupportedOperationException {
    int taken = typed.takeAll();
    int fault = formatReader.faultIn(typed.bytes, taken);
    if (fault != NO_FAULT) {
      return -fault - 1;
    }
    for (int k = 0; k < formats.size(); k++) {
      if (formats.get(k).isAsRead(formatReader)) {
        return k;
      }
    }
    if (formats.size() >= SITES_MOST) {
      throw new UnsupportedOperationException();
    }
    formats.add(new Format(formatReader));
    return formats.size() - 1;
  }

  public void name(int table, int code) throws NoSuchElementException, IllegalArgumentException {
    int taken = typed.takeAll();
    if (table < 0 || table >= TABLES || code < 0 || code >= CODES) {
      throw new NoSuchElementException();
    }
    if (taken < 1 || taken > NAME_MOST || !areAllPlain(typed.bytes, taken)) {
      throw new IllegalArgumentException();
    }
    names.put(table, code, typed.bytes, taken);
  }

  public int arg(int x) throws UnsupportedOperationException {
    if (arguments.isFull()) {
      throw new UnsupportedOperationException();
    }
    arguments.addNumber(x);
    return arguments.used;
  }

  public int text() throws IllegalArgumentException, UnsupportedOperationException {
    int taken = typed.takeAll();
    if (taken > TEXT_MOST) {
      throw new IllegalArgumentException();
    }
    if (arguments.isFull()) {
      throw new UnsupportedOperationException();
    }
    arguments.addText(typed.bytes, taken);
    return arguments.used;
  }

  public int log(int writer, int site, long time)
      throws NoSuchElementException, IllegalStateException, IllegalArgumentException,
          UnsupportedOperationException {
    int given = arguments.takeAll();
    if (!isWriter(writer) || site < 0 || site >= formats.size()) {
      throw new NoSuchElementException();
    }
    if (file.cut) {
      throw new IllegalStateException();
    }
    Writer by = writers[writer];
    if (!arguments.suit(formats.get(site), given) || time < 0 || time < by.lastTime) {
      throw new IllegalArgumentException();
    }
    int end = by.pack(site, time, arguments, given);
    if (end > ROOM) {
      sendBlock(by);
      end = by.pack(site, time, arguments, given);
    }
    by.keepPacked(end, site, time, arguments, given);
    return by.used;
  }

  public int flush(int writer)
      throws NoSuchElementException, IllegalStateException, UnsupportedOperationException {
    if (!isWriter(writer)) {
      throw new NoSuchElementException();
    }
    if (file.cut) {
      throw new IllegalStateException();
    }
    Writer by = writers[writer];
    if (by.used > 0) {
      sendBlock(by);
    }
    file.durable = file.used;
    return file.used / BLOCK;
  }

  public void rotate() {
    file.startAnew();
    for (int k = 0; k < WRITERS; k++) {
      writers[k].startNewFile();
    }
  }

  public int crash(int n) throws IllegalArgumentException, IllegalStateException {
    if (n < 0) {
      throw new IllegalArgumentException();
    }
    if (file.cut) {
      throw new IllegalStateException();
    }
    for (int k = 0; k < WRITERS; k++) {
      writers[k].emptyBlock();
    }
    file.cutBehindDurable(n);
    return file.used;
  }

  public int size() {
    return file.used;
  }

  public int byteOf(int i) throws IndexOutOfBoundsException {
    if (i < 0 || i >= file.used) {
      throw new IndexOutOfBoundsException();
    }
    return file.bytes[i];
  }

  public void damage(int i, int b) throws IndexOutOfBoundsException {
    if (i < 0 || i >= file.used) {
      throw new IndexOutOfBoundsException();
    }
    file.bytes[i] = b & 255;
  }

  public int open() {
    lines.readAll(file);
    return lines.used;
  }

  public int broken() {
    return lines.brokenBlocks;
  }

  public long time(int line) throws NoSuchElementException {
    if (!lines.has(line)) {
      throw new NoSuchElementException();
    }
    return lines.timeOf(line);
  }

  public int about(int line, int what) throws NoSuchElementException, IndexOutOfBoundsException {
    if (!lines.has(line)) {
      throw new NoSuchElementException();
    }
    if (what < -2 || what >= SLOTS_MOST) {
      throw new IndexOutOfBoundsException();
    }
    if (what == -2) {
      return lines.writerOf(line);
    }
    if (what == -1) {
      return lines.siteOf(line);
    }
    if (!lines.formatOf(line).hasSlot(what)) {
      throw new NoSuchElementException();
    }
    return lines.numberOrSize(line, what);
  }

  public int length(int line) throws NoSuchElementException {
    if (!lines.has(line)) {
      throw new NoSuchElementException();
    }
    printer.print(lines, line);
    return printer.used;
  }

  public int letter(int line, int i) throws NoSuchElementException, IndexOutOfBoundsException {
    if (!lines.has(line)) {
      throw new NoSuchElementException();
    }
    printer.print(lines, line);
    if (i < 0 || i >= printer.used) {
      throw new IndexOutOfBoundsException();
    }
    return printer.bytes[i];
  }

  public int where(int kind, int a, int b)
      throws IllegalArgumentException, UnsupportedOperationException {
    if (kind < SITE_IS || kind > NOT_ABOVE) {
      throw new IllegalArgumentException();
    }
    if (query.isFull()) {
      throw new UnsupportedOperationException();
    }
    query.addTerm(kind, a, b);
    return query.used;
  }

  public int search() throws IllegalArgumentException, UnsupportedOperationException {
    int taken = typed.takeAll();
    if (taken < 1 || taken > SEARCH_MOST) {
      throw new IllegalArgumentException();
    }
    if (query.isFull()) {
      throw new UnsupportedOperationException();
    }
    query.addSearch(typed.bytes, taken);
    return query.used;
  }

  public int clear() {
    int had = query.used;
    query.used = 0;
    return had;
  }

  public int find(int from) {
    for (int line = Math.max(from, 0); line < lines.used; line++) {
      if (query.holdsFor(lines, line, printer)) {
        return line;
      }
    }
    return -1;
  }

  public int count() {
    int held = 0;
    for (int line = 0; line < lines.used; line++) {
      if (query.holdsFor(lines, line, printer)) {
        held++;
      }
    }
    return held;
  }

  public int distinct(int slot) throws IndexOutOfBoundsException {
    if (slot < 0 || slot >= SLOTS_MOST) {
      throw new IndexOutOfBoundsException();
    }
    int seen = 0;
    for (int line = 0; line < lines.used; line++) {
      if (lines.formatOf(line).hasNumber(slot) && query.holdsFor(lines, line, printer)) {
        seen = addIfNew(different, seen, lines.valueOf(line, slot));
      }
    }
    return seen;
  }

  private void sendBlock(Writer by) throws UnsupportedOperationException {
    if (file.isFull()) {
      throw new UnsupportedOperationException();
    }
    file.append(by);
    by.startNextBlock();
  }

  private static boolean isWriter(int writer) {
    return writer >= 0 && writer < WRITERS;
  }

  private static boolean isPlain(int b) {
    return b >= 32 && b <= 126;
  }

  private static boolean areAllPlain(int[] bytes, int size) {
    for (int k = 0; k < size; k++) {
      if (!isPlain(bytes[k])) {
        return false;
      }
    }
    return true;
  }

  /** The row stays in order, so that a number is looked for in few steps. */
  private static int addIfNew(int[] ordered, int used, int number) {
    int low = 0;
    int high = used;
    for (int k = 0; k < LINES_MOST && low < high; k++) {
      int middle = (low + high) >>> 1;
      if (ordered[middle] < number) {
        low = middle + 1;
      } else {
        high = middle;
      }
    }
    if (used >= ordered.length || (low < used && ordered[low] == number)) {
      return used;
    }
    System.arraycopy(ordered, low, ordered, low + 1, used - low);
    ordered[low] = number;
    return used + 1;
  }

  private static void putHighestFirst(int[] bytes, int at, int count, long value) {
    for (int k = 0; k < count; k++) {
      bytes[at + k] = (int) (value >>> (8 * (count - 1 - k))) & 255;
    }
  }

  private static long highestFirst(int[] bytes, int at, int count) {
    long value = 0;
    for (int k = 0; k < count; k++) {
      value = value << 8 | bytes[at + k];
    }
    return value;
  }

  private static int sumOf(int[] bytes, int block) {
    int sum = 0;
    for (int k = 0; k < SUM_AT; k++) {
      sum = sum * 31 + bytes[block + k];
    }
    return sum;
  }

  /** The text. Taking it leaves its bytes in their row, for the call that took it to read. */
  private static final class Typed {
    final int[] bytes = new int[TYPED_MOST];
    int used;

    boolean add(long word, int n) {
      if (n < 1 || n > 8 || used + n > TYPED_MOST) {
        return false;
      }
      for (int k = 0; k < n; k++) {
        bytes[used + k] = (int) (word >>> (8 * k)) & 255;
      }
      used += n;
      return true;
    }

    int takeAll() {
      int taken = used;
      used = 0;
      return taken;
    }
  }

  /** Finds a format's first fault, and splits a right one into plain bytes and slots. */
  private static final class FormatReader {
    private static final int PLAIN = 0;
    private static final int OPENED = 1;
    private static final int DIGIT_DUE = 2;
    private static final int END_DUE = 3;
    private static final int CLOSED = 4;

    final int[] parts = new int[FORMAT_MOST];
    final int[] slots = new int[SLOTS_MOST];
    int partCount;
    int slotCount;
    private int state;
    private int kind;

    int faultIn(int[] bytes, int size) {
      partCount = 0;
      slotCount = 0;
      state = PLAIN;
      for (int k = 0; k < size; k++) {
        boolean braceNext = k + 1 < size && bytes[k + 1] == '{';
        if (k >= FORMAT_MOST || !isPlain(bytes[k]) || !goesOnWith(bytes[k], braceNext)) {
          return k;
        }
      }
      return state == PLAIN ? NO_FAULT : size;
    }

    private boolean goesOnWith(int b, boolean braceNext) {
      switch (state) {
        case OPENED:
          return goesOnBehindBrace(b);
        case DIGIT_DUE:
          return goesOnWithDigit(b);
        case END_DUE:
          return b == '}' && addSlot();
        case CLOSED:
          return b == '}' && addPart(b);
        default:
          return goesOnInPlain(b, braceNext);
      }
    }

    private boolean goesOnInPlain(int b, boolean braceNext) {
      if (b == '{') {
        state = OPENED;
        return slotCount < SLOTS_MOST || braceNext;
      }
      if (b == '}') {
        state = CLOSED;
        return true;
      }
      return addPart(b);
    }

    private boolean goesOnBehindBrace(int b) {
      if (b == '{') {
        return addPart(b);
      }
      kind = b * KIND;
      if (b == 'f' || b == 'e') {
        state = DIGIT_DUE;
        return true;
      }
      state = END_DUE;
      return b == 'd' || b == 'u' || b == 'x' || b == 't';
    }

    private boolean goesOnWithDigit(int b) {
      int least = kind == 'f' * KIND ? '1' : '0';
      int most = kind == 'f' * KIND ? '6' : '7';
      kind += b - '0';
      state = END_DUE;
      return b >= least && b <= most;
    }

    private boolean addPart(int part) {
      state = PLAIN;
      if (partCount >= FORMAT_MOST) {
        return false;
      }
      parts[partCount] = part;
      partCount++;
      return true;
    }

    private boolean addSlot() {
      if (slotCount >= SLOTS_MOST) {
        return false;
      }
      slots[slotCount] = kind;
      slotCount++;
      return addPart(kind);
    }
  }

  /** A site's format. Different formats have different parts, since each part says all of itself. */
  private static final class Format {
    final int[] parts;
    final int[] slots;

    Format(FormatReader reader) {
      parts = Arrays.copyOf(reader.parts, reader.partCount);
      slots = Arrays.copyOf(reader.slots, reader.slotCount);
    }

    boolean isAsRead(FormatReader reader) {
      if (reader.partCount != parts.length) {
        return false;
      }
      for (int k = 0; k < parts.length; k++) {
        if (parts[k] != reader.parts[k]) {
          return false;
        }
      }
      return true;
    }

    boolean hasSlot(int slot) {
      return slot >= 0 && slot < slots.length;
    }

    boolean hasText(int slot) {
      return hasSlot(slot) && slots[slot] == TEXT_KIND;
    }

    boolean hasNumber(int slot) {
      return hasSlot(slot) && slots[slot] != TEXT_KIND;
    }
  }

  /** The tables; a code without a name has one of size 0. */
  private static final class Names {
    final int[] sizes = new int[TABLES * CODES];
    final int[] bytes = new int[TABLES * CODES * NAME_MOST];

    void put(int table, int code, int[] from, int size) {
      int place = table * CODES + code;
      sizes[place] = size;
      System.arraycopy(from, 0, bytes, place * NAME_MOST, size);
    }

    boolean hasName(int table, int code) {
      return code >= 0 && code < CODES && sizes[table * CODES + code] > 0;
    }
  }

  /** The arguments. Taking them leaves them in their rows, for log() to pack. */
  private static final class Arguments {
    final int[] values = new int[SLOTS_MOST];
    final boolean[] areTexts = new boolean[SLOTS_MOST];
    final int[] bytes = new int[SLOTS_MOST * TEXT_MOST];
    int used;

    boolean isFull() {
      return used >= SLOTS_MOST;
    }

    void addNumber(int x) {
      values[used] = x;
      areTexts[used] = false;
      used++;
    }

    void addText(int[] from, int size) {
      values[used] = size;
      areTexts[used] = true;
      System.arraycopy(from, 0, bytes, used * TEXT_MOST, size);
      used++;
    }

    int takeAll() {
      int taken = used;
      used = 0;
      return taken;
    }

    boolean suit(Format format, int given) {
      if (given != format.slots.length) {
        return false;
      }
      for (int slot = 0; slot < given; slot++) {
        if (areTexts[slot] != format.hasText(slot)) {
          return false;
        }
      }
      return true;
    }
  }

  /** A writer and the block that it packs. The row has room behind the block for an event too many. */
  private static final class Writer {
    final int number;
    final int[] events = new int[ROOM + PACKED_MOST];
    int used;
    int blocks;
    long firstTime;
    long lastTime;
    private final int[] lasts = new int[SITES_MOST * SLOTS_MOST];
    private int packedEnd;

    Writer(int number) {
      this.number = number;
    }

    void emptyBlock() {
      used = 0;
      Arrays.fill(lasts, 0);
    }

    void startNextBlock() {
      blocks++;
      emptyBlock();
    }

    void startNewFile() {
      blocks = 0;
      lastTime = 0;
      emptyBlock();
    }

    /** Packs behind the block's events, keeping nothing yet, and tells where the event would end. */
    int pack(int site, long time, Arguments arguments, int given) {
      packedEnd = used;
      putVar(site);
      putVar(used == 0 ? 0 : time - lastTime);
      for (int slot = 0; slot < given; slot++) {
        if (arguments.areTexts[slot]) {
          putText(arguments, slot);
        } else {
          putNumber(arguments.values[slot], lasts[site * SLOTS_MOST + slot]);
        }
      }
      return packedEnd;
    }

    void keepPacked(int end, int site, long time, Arguments arguments, int given) {
      if (used == 0) {
        firstTime = time;
      }
      lastTime = time;
      used = end;
      for (int slot = 0; slot < given; slot++) {
        if (!arguments.areTexts[slot]) {
          lasts[site * SLOTS_MOST + slot] = arguments.values[slot];
        }
      }
    }

    private void put(int b) {
      if (packedEnd < events.length) {
        events[packedEnd] = b;
        packedEnd++;
      }
    }

    private void putVar(long value) {
      long rest = value;
      for (int k = 1; k < VAR_MOST && rest > 127; k++) {
        put((int) (rest & 127) + 128);
        rest >>>= 7;
      }
      put((int) (rest & 127));
    }

    private void putNumber(int x, int last) {
      int step = x - last;
      if (step == 0) {
        put(SAME);
      } else if (step >= -NEAR_MOST && step <= NEAR_MOST) {
        put(NEAR + step);
      } else {
        put(WHOLE);
        for (int shift = 24; shift >= 0; shift -= 8) {
          put(x >>> shift & 255);
        }
      }
    }

    private void putText(Arguments arguments, int slot) {
      int size = arguments.values[slot];
      put(size);
      for (int k = 0; k < size; k++) {
        put(arguments.bytes[slot * TEXT_MOST + k]);
      }
    }
  }

  private static final class BlockFile {
    final int[] bytes = new int[FILE_MOST];
    int used;
    int durable;
    boolean cut;

    boolean isFull() {
      return used + BLOCK > FILE_MOST;
    }

    /** An earlier file may have left bytes where the block goes, so all of it is written. */
    void append(Writer writer) {
      Arrays.fill(bytes, used, used + BLOCK, 0);
      bytes[used] = MARK;
      bytes[used + WRITER_AT] = writer.number;
      putHighestFirst(bytes, used + NUMBER_AT, 2, writer.blocks);
      putHighestFirst(bytes, used + TIME_AT, 8, writer.firstTime);
      putHighestFirst(bytes, used + USED_AT, 2, writer.used);
      System.arraycopy(writer.events, 0, bytes, used + EVENTS_AT, writer.used);
      putHighestFirst(bytes, used + SUM_AT, 4, sumOf(bytes, used));
      used += BLOCK;
    }

    void startAnew() {
      used = 0;
      durable = 0;
      cut = false;
    }

    /** Every crash ends the file, also one that finds nothing to take away. */
    void cutBehindDurable(int n) {
      used = durable + Math.min(n, used - durable);
      cut = true;
    }
  }

  /** Takes VARs, numbers and texts from a block's bytes; what cannot be taken makes it bad. */
  private static final class Unpacker {
    private final int[] bytes;
    private final int[] lasts = new int[SITES_MOST * SLOTS_MOST];
    private int at;
    private int end;
    boolean bad;

    Unpacker(int[] bytes) {
      this.bytes = bytes;
    }

    void startBlock(int from, int size) {
      at = from;
      end = from + size;
      bad = false;
      Arrays.fill(lasts, 0);
    }

    boolean hasMore() {
      return at < end;
    }

    long takeVar() {
      long value = 0;
      for (int k = 0; k < VAR_MOST; k++) {
        int b = takeByte();
        value |= (long) (b & 127) << (7 * k);
        if (b < 128) {
          bad = bad || (b == 0 && k > 0);
          return value;
        }
      }
      bad = true;
      return 0;
    }

    int takeNumber(int site, int slot) {
      int place = site * SLOTS_MOST + slot;
      int code = takeByte();
      if (code == WHOLE) {
        for (int k = 0; k < 4; k++) {
          lasts[place] = lasts[place] << 8 | takeByte();
        }
      } else if (code != SAME) {
        int step = code - NEAR;
        bad = bad || step == 0 || step < -NEAR_MOST || step > NEAR_MOST;
        lasts[place] += step;
      }
      return lasts[place];
    }

    /** A text is told by the place of its size, which its bytes follow. */
    int takeText() {
      int place = at;
      int size = takeByte();
      if (size > TEXT_MOST || size > end - at) {
        bad = true;
        return 0;
      }
      at += size;
      return place;
    }

    private int takeByte() {
      if (at >= end) {
        bad = true;
        return 0;
      }
      int b = bytes[at];
      at++;
      return b;
    }
  }

  /** What was read. It has a copy of the file, for the texts in it to stay as they were. */
  private static final class Lines {
    int used;
    int brokenBlocks;
    final int[] copy = new int[FILE_MOST];
    private final ArrayList<Format> formats;
    private final Unpacker unpacker = new Unpacker(copy);
    private final long[] times = new long[LINES_MOST];
    private final int[] writers = new int[LINES_MOST];
    private final int[] sites = new int[LINES_MOST];
    private final int[] firstValues = new int[LINES_MOST];
    private final int[] values = new int[VALUES_MOST];
    private final int[] order = new int[LINES_MOST];
    private final int[] heads = new int[BLOCKS_MOST];
    private final int[] ends = new int[BLOCKS_MOST];
    private int events;
    private int valuesUsed;

    Lines(ArrayList<Format> formats) {
      this.formats = formats;
    }

    boolean has(int line) {
      return line >= 0 && line < used;
    }

    long timeOf(int line) {
      return times[order[line]];
    }

    int writerOf(int line) {
      return writers[order[line]];
    }

    int siteOf(int line) {
      return sites[order[line]];
    }

    Format formatOf(int line) {
      return formats.get(siteOf(line));
    }

    /** A slot's number; for a text, the place of its size in the copy. */
    int valueOf(int line, int slot) {
      return values[firstValues[order[line]] + slot];
    }

    int numberOrSize(int line, int slot) {
      int value = valueOf(line, slot);
      return formatOf(line).hasText(slot) ? copy[value] : value;
    }

    void readAll(BlockFile file) {
      System.arraycopy(file.bytes, 0, copy, 0, file.used);
      int blocks = file.used / BLOCK;
      events = 0;
      brokenBlocks = file.used % BLOCK == 0 ? 0 : 1;
      for (int k = 0; k < blocks; k++) {
        heads[k] = events;
        valuesUsed = k * ROOM;
        if (!isHeadRight(k * BLOCK) || !areEventsRight(k * BLOCK)) {
          brokenBlocks++;
          events = heads[k];
        }
        ends[k] = events;
      }
      mergeBlocks(blocks);
    }

    private boolean isHeadRight(int at) {
      return copy[at] == MARK
          && isWriter(copy[at + WRITER_AT])
          && highestFirst(copy, at + TIME_AT, 8) >= 0
          && highestFirst(copy, at + USED_AT, 2) <= ROOM
          && (int) highestFirst(copy, at + SUM_AT, 4) == sumOf(copy, at);
    }

    private boolean areEventsRight(int at) {
      int size = (int) highestFirst(copy, at + USED_AT, 2);
      long time = highestFirst(copy, at + TIME_AT, 8);
      unpacker.startBlock(at + EVENTS_AT, size);
      for (int k = 0; k < size && unpacker.hasMore(); k++) {
        if (!isNextEventRight(copy[at + WRITER_AT], time)) {
          return false;
        }
        time = times[events];
        events++;
      }
      return true;
    }

    /** Reads an event into the rows' first free place. */
    private boolean isNextEventRight(int writer, long timeBefore) {
      long site = unpacker.takeVar();
      long time = timeBefore + unpacker.takeVar();
      if (unpacker.bad || site >= formats.size() || time < 0 || events >= LINES_MOST) {
        return false;
      }
      times[events] = time;
      writers[events] = writer;
      sites[events] = (int) site;
      firstValues[events] = valuesUsed;
      readValues((int) site);
      return !unpacker.bad;
    }

    private void readValues(int site) {
      Format format = formats.get(site);
      for (int slot = 0; slot < format.slots.length && valuesUsed < VALUES_MOST; slot++) {
        values[valuesUsed] =
            format.hasText(slot) ? unpacker.takeText() : unpacker.takeNumber(site, slot);
        valuesUsed++;
      }
    }

    /** A block's events are in order of time already, and of one writer. */
    private void mergeBlocks(int blocks) {
      used = events;
      for (int line = 0; line < events; line++) {
        int first = firstHead(blocks);
        order[line] = heads[first];
        heads[first]++;
      }
    }

    private int firstHead(int blocks) {
      int first = 0;
      for (int k = 1; k < blocks; k++) {
        if (heads[k] < ends[k] && (heads[first] >= ends[first] || isBefore(heads[k], heads[first]))) {
          first = k;
        }
      }
      return first;
    }

    private boolean isBefore(int event, int other) {
      if (times[event] != times[other]) {
        return times[event] < times[other];
      }
      return writers[event] < writers[other];
    }
  }

  /** Prints a line into a row that it uses again for the next one. */
  private static final class Printer {
    final int[] bytes = new int[PRINTED_MOST];
    int used;
    private final Names names;
    private final int[] digits = new int[10];

    Printer(Names names) {
      this.names = names;
    }

    void print(Lines lines, int line) {
      Format format = lines.formatOf(line);
      int slot = 0;
      used = 0;
      for (int k = 0; k < format.parts.length; k++) {
        int part = format.parts[k];
        if (part < KIND) {
          put(part);
        } else {
          putSlot(part, lines, lines.valueOf(line, slot));
          slot++;
        }
      }
    }

    /** Says whether bytes of a row, from a place on, stand somewhere in what is printed. */
    boolean hasIn(int[] row, int from, int size) {
      for (int at = 0; at + size <= used; at++) {
        if (standsAt(at, row, from, size)) {
          return true;
        }
      }
      return false;
    }

    private boolean standsAt(int at, int[] row, int from, int size) {
      for (int k = 0; k < size; k++) {
        if (bytes[at + k] != row[from + k]) {
          return false;
        }
      }
      return true;
    }

    private void putSlot(int kind, Lines lines, int value) {
      int digit = kind % KIND;
      switch (kind / KIND) {
        case 't':
          putRow(lines.copy, value + 1, lines.copy[value]);
          break;
        case 'u':
          putDecimal(value & 0xFFFFFFFFL, 0);
          break;
        case 'x':
          putHexadecimal(value);
          break;
        case 'f':
          putDecimal(value, digit);
          break;
        case 'e':
          putName(digit, value);
          break;
        default:
          putDecimal(value, 0);
          break;
      }
    }

    private void put(int b) {
      if (used < PRINTED_MOST) {
        bytes[used] = b;
        used++;
      }
    }

    private void putRow(int[] row, int from, int size) {
      for (int k = 0; k < size; k++) {
        put(row[from + k]);
      }
    }

    private void putName(int table, int code) {
      if (names.hasName(table, code)) {
        int place = table * CODES + code;
        putRow(names.bytes, place * NAME_MOST, names.sizes[place]);
      } else {
        putDecimal(code, 0);
      }
    }

    /** As a long, since the least int has no opposite. */
    private void putDecimal(long number, int behindPoint) {
      long rest = number < 0 ? -number : number;
      int count = 0;
      while (count < digits.length && (rest > 0 || count <= behindPoint)) {
        digits[count] = (int) (rest % 10);
        rest /= 10;
        count++;
      }
      if (number < 0) {
        put('-');
      }
      for (int k = count - 1; k >= 0; k--) {
        put('0' + digits[k]);
        if (k == behindPoint && k > 0) {
          put('.');
        }
      }
    }

    private void putHexadecimal(int number) {
      for (int shift = 28; shift >= 0; shift -= 4) {
        int digit = number >>> shift & 15;
        if (shift == 0 || number >>> shift != 0) {
          put(digit < 10 ? '0' + digit : 'a' + digit - 10);
        }
      }
    }
  }

  private static final class Query {
    int used;
    private final int[] kinds = new int[TERMS_MOST];
    private final int[] firsts = new int[TERMS_MOST];
    private final int[] seconds = new int[TERMS_MOST];
    private final int[] bytes = new int[TERMS_MOST * SEARCH_MOST];

    boolean isFull() {
      return used >= TERMS_MOST;
    }

    void addTerm(int kind, int a, int b) {
      kinds[used] = kind;
      firsts[used] = a;
      seconds[used] = b;
      used++;
    }

    void addSearch(int[] from, int size) {
      System.arraycopy(from, 0, bytes, used * SEARCH_MOST, size);
      addTerm(STANDS_IN, used * SEARCH_MOST, size);
    }

    /** A line is printed at most once, and only for a term that looks into its text. */
    boolean holdsFor(Lines lines, int line, Printer printer) {
      boolean isPrinted = false;
      for (int k = 0; k < used; k++) {
        if (kinds[k] == STANDS_IN && !isPrinted) {
          printer.print(lines, line);
          isPrinted = true;
        }
        if (!isTermTrue(k, lines, line, printer)) {
          return false;
        }
      }
      return true;
    }

    private boolean isTermTrue(int term, Lines lines, int line, Printer printer) {
      int a = firsts[term];
      int b = seconds[term];
      switch (kinds[term]) {
        case SITE_IS:
          return lines.siteOf(line) == a;
        case WRITER_IS:
          return lines.writerOf(line) == a;
        case NOT_BELOW:
          return lines.formatOf(line).hasNumber(a) && lines.valueOf(line, a) >= b;
        case NOT_ABOVE:
          return lines.formatOf(line).hasNumber(a) && lines.valueOf(line, a) <= b;
        default:
          return printer.hasIn(bytes, a, b);
      }
    }
  }
}
