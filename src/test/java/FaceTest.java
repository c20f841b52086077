import java.lang.management.ManagementFactory;
import java.lang.reflect.Constructor;
import java.lang.reflect.Field;
import java.lang.reflect.Method;
import java.lang.reflect.Modifier;
import java.util.Arrays;
import java.util.Set;
import java.util.TreeSet;

/** The public face, what the language's rules say of members, and how much a run may make. */
public final class FaceTest {
  private static final String[] FACE = {
    "boolean type(long, int)",
    "int site() UnsupportedOperationException",
    "void name(int, int) NoSuchElementException IllegalArgumentException",
    "int arg(int) UnsupportedOperationException",
    "int text() IllegalArgumentException UnsupportedOperationException",
    "int log(int, int, long) NoSuchElementException IllegalStateException IllegalArgumentException UnsupportedOperationException",
    "int flush(int) NoSuchElementException IllegalStateException UnsupportedOperationException",
    "void rotate()",
    "int crash(int) IllegalArgumentException IllegalStateException",
    "int size()",
    "int byteOf(int) IndexOutOfBoundsException",
    "void damage(int, int) IndexOutOfBoundsException",
    "int open()",
    "int broken()",
    "long time(int) NoSuchElementException",
    "int about(int, int) NoSuchElementException IndexOutOfBoundsException",
    "int length(int) NoSuchElementException",
    "int letter(int, int) NoSuchElementException IndexOutOfBoundsException",
    "int where(int, int, int) IllegalArgumentException UnsupportedOperationException",
    "int search() IllegalArgumentException UnsupportedOperationException",
    "int clear()",
    "int find(int)",
    "int count()",
    "int distinct(int) IndexOutOfBoundsException"
  };

  public static void main(String[] args) {
    face();
    members();
    classesInside();
    whatARunMakes();
    Check.end();
  }

  private static String told(Method method) {
    StringBuilder told = new StringBuilder(method.getReturnType().getSimpleName() + " " + method.getName());
    told.append(Arrays.toString(Arrays.stream(method.getParameterTypes()).map(Class::getSimpleName).toArray()).replace('[', '(').replace(']', ')'));
    for (Class<?> thrown : method.getExceptionTypes()) {
      told.append(" ").append(thrown.getSimpleName());
    }
    return told.toString();
  }

  private static void face() {
    Set<String> found = new TreeSet<>();
    for (Method method : EventLog.class.getDeclaredMethods()) {
      if (!Modifier.isPrivate(method.getModifiers())) {
        found.add(told(method));
        Check.due(method + " is public alone", method.getModifiers(), Modifier.PUBLIC);
      }
    }
    Check.due("the face", found.toString(), new TreeSet<>(Arrays.asList(FACE)).toString());
    Check.due("constructors", EventLog.class.getDeclaredConstructors().length, 1);
    Constructor<?> constructor = EventLog.class.getDeclaredConstructors()[0];
    Check.due("the constructor", constructor.toString(), "public EventLog()");
    Check.due("the class", EventLog.class.getModifiers(), Modifier.PUBLIC | Modifier.FINAL);
  }

  private static void members() {
    Set<String> names = new TreeSet<>();
    for (String method : FACE) {
      names.add(method.substring(method.indexOf(' ') + 1, method.indexOf('(')));
    }
    for (Method method : EventLog.class.getDeclaredMethods()) {
      boolean isPrivate = Modifier.isPrivate(method.getModifiers());
      Check.due(method + " has a name of its own", isPrivate && names.contains(method.getName()) ? 1 : 0, 0);
    }
    fieldsAreRight(EventLog.class);
    for (Field field : EventLog.class.getDeclaredFields()) {
      Check.due(field + " is private", Modifier.isPrivate(field.getModifiers()) ? 1 : 0, 1);
    }
  }

  private static void fieldsAreRight(Class<?> type) {
    int own = 0;
    for (Field field : type.getDeclaredFields()) {
      boolean isStatic = Modifier.isStatic(field.getModifiers());
      Check.due(field + " is no static state", isStatic && !Modifier.isFinal(field.getModifiers()) ? 1 : 0, 0);
      own += isStatic ? 0 : 1;
    }
    Check.due(type + " has few fields", own <= 20 ? 1 : 0, 1);
  }

  private static void classesInside() {
    Class<?>[] inside = EventLog.class.getDeclaredClasses();
    Check.due("twelve classes at most", inside.length < 12 ? 1 : 0, 1);
    for (Class<?> type : inside) {
      Check.due(type + " is private and static", type.getModifiers() & (Modifier.PRIVATE | Modifier.STATIC), Modifier.PRIVATE | Modifier.STATIC);
      fieldsAreRight(type);
    }
  }

  /** All but a few objects are made with the first one, so the dearest calls make nothing more. */
  private static void whatARunMakes() {
    dearRun();
    long before = allocated();
    dearRun();
    long made = allocated() - before;
    Check.due("a run makes " + made + " bytes, less than 400,000", made < 400_000 ? 1 : 0, 1);
  }

  private static long allocated() {
    return ((com.sun.management.ThreadMXBean) ManagementFactory.getThreadMXBean()).getThreadAllocatedBytes(Thread.currentThread().getId());
  }

  private static void dearRun() {
    EventLog log = new EventLog();
    for (int k = 0; k < 40; k++) {
      log.type('A' + k, 1);
      log.type(0x7D647BL, 3);
      log.site();
    }
    for (int k = 0; k < 24; k++) {
      log.arg(k);
      log.log(k % 4, k, k);
      log.flush(k % 4);
    }
    log.type('a', 1);
    log.search();
    for (int k = 0; k < 60; k++) {
      log.open();
      log.count();
      log.find(0);
      log.distinct(0);
      log.length(0);
    }
  }
}
