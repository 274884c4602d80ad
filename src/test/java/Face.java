import java.lang.management.ManagementFactory;
import java.lang.reflect.Constructor;
import java.lang.reflect.Field;
import java.lang.reflect.Member;
import java.lang.reflect.Method;
import java.lang.reflect.Modifier;
import java.util.Arrays;
import java.util.Set;
import java.util.TreeSet;

/** The document's public face, the values of its constants, and the room that all calls of a run live in. */
public final class Face {
  private static final String[] FACE = {
    "public static final long UNIT", "public static final int NONE", "public RefinedSpline()",
    "public boolean begin(int)", "public boolean point(int, int, int)", "public boolean knot(int)",
    "public int finish()", "public int insert(int)", "public boolean remove(int)", "public int decompose()",
    "public int thin()", "public boolean elevate()", "public boolean reverse()", "public int degree()",
    "public int points()", "public int knotAt(int)", "public long control(int, int)", "public int span(int)",
    "public long basis(int, int)", "public int locate(int, int)", "public int tessellate(int, int, int)",
    "public int vertex(int)",
  };
  /** 7.3 million fields and elements, four bytes being the least that one takes. */
  private static final long ROOM = 4 * 7_300_000L;
  private static int wrong = 0;

  private static void fault(String text) {
    wrong++;
    System.out.println(text);
  }

  private static String tell(Member member, Class<?> type, Class<?>[] parameters) {
    StringBuilder text = new StringBuilder(Modifier.toString(member.getModifiers())).append(' ');
    if (type != null) text.append(type.getSimpleName()).append(' ');
    text.append(type == null ? "RefinedSpline" : member.getName());
    if (parameters == null) return text.toString();
    String list = Arrays.toString(Arrays.stream(parameters).map(Class::getSimpleName).toArray());
    return text.append('(').append(list, 1, list.length() - 1).append(')').toString();
  }

  private static void face() {
    Set<String> seen = new TreeSet<>();
    Class<?> all = RefinedSpline.class;
    for (Field f : all.getDeclaredFields()) {
      if (!Modifier.isPrivate(f.getModifiers())) seen.add(tell(f, f.getType(), null));
    }
    for (Constructor<?> c : all.getDeclaredConstructors()) {
      if (!Modifier.isPrivate(c.getModifiers())) seen.add(tell(c, null, c.getParameterTypes()));
    }
    for (Method m : all.getDeclaredMethods()) {
      boolean own = !Modifier.isPrivate(m.getModifiers()) && !m.isSynthetic();
      if (own) seen.add(tell(m, m.getReturnType(), m.getParameterTypes()));
    }
    if (!seen.equals(new TreeSet<>(Arrays.asList(FACE)))) fault("the face is " + seen);
    boolean open = Modifier.isPublic(all.getModifiers()) && Modifier.isFinal(all.getModifiers());
    if (!open) fault("the class is not public and final");
    if (!all.getPackageName().isEmpty()) fault("the class is in a package");
    if (all.getSuperclass() != Object.class || all.getInterfaces().length > 0) fault("the class has another face above it");
  }

  /** By reflection, as the compiler copies a constant's value into this test. */
  private static void constants() throws ReflectiveOperationException {
    long unit = RefinedSpline.class.getField("UNIT").getLong(null);
    int none = RefinedSpline.class.getField("NONE").getInt(null);
    if (unit != 216000L) fault("UNIT is " + unit);
    if (none != Integer.MIN_VALUE) fault("NONE is " + none);
  }

  private static RefinedSpline greatest() {
    RefinedSpline s = new RefinedSpline();
    s.begin(3);
    for (int i = 0; i < 19; i++) s.point(i % 2 == 0 ? 1000 : -1000, 30 * i, 1 + i % 16);
    for (int k = 1; k <= 5; k++) for (int i = 0; i < 3; i++) s.knot(k);
    s.finish();
    return s;
  }

  /** One call for each of the numbers 0 .. 7: those that have the most to do on the greatest curve. */
  private static void callDearly(RefinedSpline s, int which) {
    switch (which) {
      case 0, 1 -> s.tessellate(1, 0, 6);
      case 2 -> s.tessellate(0, 0, 6);
      case 3 -> s.thin();
      case 4 -> s.decompose();
      case 5 -> s.reverse();
      case 6 -> s.remove(3);
      default -> s.locate(359, 1);
    }
  }

  /** Nothing that a run makes is given back, so 512 calls of the dearest must leave most of the room. */
  private static void room() {
    var thread = (com.sun.management.ThreadMXBean) ManagementFactory.getThreadMXBean();
    callDearly(greatest(), 0);
    long before = thread.getCurrentThreadAllocatedBytes();
    RefinedSpline s = greatest();
    for (int calls = 36; calls < 512; calls++) callDearly(s, calls % 8);
    long taken = thread.getCurrentThreadAllocatedBytes() - before;
    if (taken > ROOM / 2) fault("a run of 512 calls takes " + taken + " bytes of " + ROOM);
  }

  public static void main(String[] args) throws ReflectiveOperationException {
    face();
    constants();
    room();
    System.out.println("Face: " + (wrong == 0 ? "all is as due" : wrong + " faults"));
    if (wrong != 0) System.exit(1);
  }
}
