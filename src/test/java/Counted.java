/**
 * An EventLog that counts its calls. What an object answers behind its 512th call is free, so a test that makes more calls
 * of one object rests on what nobody promised.
 */
final class Counted {
  private static final int CALLS_MOST = 512;

  private final EventLog log = new EventLog();
  private int calls = 0;

  int calls() {
    return calls;
  }

  private EventLog next() {
    calls++;
    if (calls == CALLS_MOST + 1) {
      Check.report("a test made more than " + CALLS_MOST + " calls of one object");
    }
    return log;
  }

  boolean type(long w, int n) {
    return next().type(w, n);
  }

  int site() {
    return next().site();
  }

  void name(int table, int code) {
    next().name(table, code);
  }

  int arg(int x) {
    return next().arg(x);
  }

  int text() {
    return next().text();
  }

  int log(int writer, int site, long time) {
    return next().log(writer, site, time);
  }

  int flush(int writer) {
    return next().flush(writer);
  }

  void rotate() {
    next().rotate();
  }

  int crash(int n) {
    return next().crash(n);
  }

  int size() {
    return next().size();
  }

  int byteOf(int i) {
    return next().byteOf(i);
  }

  void damage(int i, int b) {
    next().damage(i, b);
  }

  int open() {
    return next().open();
  }

  int broken() {
    return next().broken();
  }

  long time(int line) {
    return next().time(line);
  }

  int about(int line, int what) {
    return next().about(line, what);
  }

  int length(int line) {
    return next().length(line);
  }

  int letter(int line, int i) {
    return next().letter(line, i);
  }

  int where(int kind, int a, int b) {
    return next().where(kind, a, b);
  }

  int search() {
    return next().search();
  }

  int clear() {
    return next().clear();
  }

  int find(int from) {
    return next().find(from);
  }

  int count() {
    return next().count();
  }

  int distinct(int slot) {
    return next().distinct(slot);
  }
}
