import java.io.IOException;
import java.lang.management.ManagementFactory;
import java.lang.reflect.Constructor;
import java.lang.reflect.Field;
import java.lang.reflect.Member;
import java.lang.reflect.Method;
import java.lang.reflect.Modifier;
import java.nio.file.Files;
import java.nio.file.Path;
import java.util.Arrays;
import java.util.Set;
import java.util.TreeSet;
import java.util.regex.Matcher;
import java.util.regex.Pattern;

/** The document's public face, what can be seen of LANGUAGE.md's rules from outside, and the room. */
public final class FaceAndRules {
  private static int wrong = 0;

  private static final String[] FACE = {
    "public static final long UNIT", "public static final int NONE", "public RefinedSpline()",
    "public boolean begin(int)", "public boolean point(int, int, int)", "public boolean knot(int)",
    "public int finish()", "public int insert(int)", "public boolean remove(int)", "public int decompose()",
    "public int thin()", "public boolean elevate()", "public boolean reverse()", "public int degree()",
    "public int points()", "public int knotAt(int)", "public long control(int, int)", "public int span(int)",
    "public long basis(int, int)", "public int locate(int, int)", "public int tessellate(int, int, int)",
    "public int vertex(int)",
  };

  private static final String[] FORBIDDEN = {
    "\\bthrow\\b", "\\btry\\b", "\\bcatch\\b", "\\bsynchronized\\b", "\\bassert\\b", "->", "::", "Exact\\b",
    "\\bimport\\b", "\\bpackage\\b", "\\bprotected\\b", "\\bSystem\\.(?!arraycopy)", "\\bdouble\\b", "\\bfloat\\b",
    "\\bstatic\\s*\\{", "\\bnew\\s+\\w+\\s*\\([^)]*\\)\\s*\\{", "\\bhashCode\\b", "\\btoString\\b",
  };

  private static void fault(String text) {
    wrong++;
    System.out.println(text);
  }

  private static String tell(Member member, Class<?> type, Class<?>[] parameters) {
    StringBuilder text = new StringBuilder(Modifier.toString(member.getModifiers())).append(' ');
    if (type != null) text.append(type.getSimpleName()).append(' ');
    text.append(type == null ? "RefinedSpline" : member.getName());
    if (parameters == null) return text.toString();
    String list = Arrays.toString(Arrays.stream(parameters).map(Class::getSimpleName).toArray());
    return text.append('(').append(list, 1, list.length() - 1).append(')').toString();
  }

  private static void face() {
    Set<String> seen = new TreeSet<>();
    Set<String> names = new TreeSet<>();
    Class<?> all = RefinedSpline.class;
    for (Field f : all.getDeclaredFields()) {
      if (!Modifier.isPrivate(f.getModifiers())) seen.add(tell(f, f.getType(), null));
      boolean loose = Modifier.isStatic(f.getModifiers()) && !Modifier.isFinal(f.getModifiers());
      if (loose) fault("a static field that is not final: " + f.getName());
    }
    for (Constructor<?> c : all.getDeclaredConstructors()) seen.add(tell(c, null, c.getParameterTypes()));
    for (Method m : all.getDeclaredMethods()) {
      if (Modifier.isPrivate(m.getModifiers())) continue;
      seen.add(tell(m, m.getReturnType(), m.getParameterTypes()));
      names.add(m.getName());
    }
    if (!seen.equals(new TreeSet<>(Arrays.asList(FACE)))) fault("the face is " + seen);
    if (!Modifier.isFinal(all.getModifiers()) || !Modifier.isPublic(all.getModifiers())) fault("the class is not public final");
    for (Method m : all.getDeclaredMethods()) ownName(m, names);
    for (Class<?> inside : all.getDeclaredClasses()) {
      if (!Modifier.isStatic(inside.getModifiers())) fault("not static: " + inside);
      for (Method m : inside.getDeclaredMethods()) ownName(m, names);
    }
  }

  private static void ownName(Method m, Set<String> names) {
    if (m.getParameterCount() > 7) fault("too many parameters: " + m);
    boolean inFace = m.getDeclaringClass() == RefinedSpline.class && !Modifier.isPrivate(m.getModifiers());
    if (!inFace && names.contains(m.getName())) fault("a method inside bears a public name: " + m);
  }

  private static void source() throws IOException {
    String path = System.getProperty("source", "src/main/java/RefinedSpline.java");
    String text = Files.readString(Path.of(path));
    String code = text.replaceAll("(?s)/\\*.*?\\*/", "").replaceAll("//[^\n]*", "");
    for (String pattern : FORBIDDEN) {
      Matcher found = Pattern.compile(pattern).matcher(code);
      if (found.find()) fault("LANGUAGE.md leaves out: " + found.group());
    }
  }

  private static RefinedSpline greatest() {
    RefinedSpline s = new RefinedSpline();
    s.begin(1);
    for (int i = 0; i < 7; i++) s.point(i % 2 == 0 ? 1000 : -1000, 30 * i, 1 + i);
    for (int k = 1; k <= 5; k++) s.knot(k);
    s.finish();
    return s;
  }

  /** Every call once or more, refused ones too: 24 calls. */
  private static void useAll(RefinedSpline s) {
    s.begin(2);
    s.point(1, 2, 3);
    s.point(1, 2, 17);
    s.knot(4);
    s.finish();
    s.elevate();
    s.decompose();
    s.thin();
    s.insert(3);
    s.insert(6);
    s.remove(3);
    s.remove(0);
    s.reverse();
    s.degree();
    s.points();
    s.knotAt(2);
    s.control(2, 1);
    s.span(17);
    s.basis(2, 17);
    s.locate(17, 0);
    s.tessellate(1, 0, 6);
    s.tessellate(0, 0, 6);
    s.tessellate(0, -1, 6);
    s.vertex(5);
  }

  /** Rows are made once for an object, so that no run of calls fills the room. */
  private static void room() {
    var thread = (com.sun.management.ThreadMXBean) ManagementFactory.getThreadMXBean();
    useAll(greatest());
    long start = thread.getCurrentThreadAllocatedBytes();
    RefinedSpline s = greatest();
    long made = thread.getCurrentThreadAllocatedBytes();
    for (int i = 0; i < 20; i++) useAll(s);
    long used = thread.getCurrentThreadAllocatedBytes();
    if (made - start > 16_000) fault("a new object takes " + (made - start) + " bytes");
    if (used - made > 1_000) fault("480 calls take " + (used - made) + " bytes");
  }

  public static void main(String[] args) throws IOException {
    face();
    source();
    room();
    System.out.println(wrong == 0 ? "FaceAndRules: all is as due" : "FaceAndRules: " + wrong + " faults");
    if (wrong != 0) System.exit(1);
  }
}
