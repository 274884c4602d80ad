import java.util.ArrayList;
import java.util.Arrays;
import java.util.HashMap;
import java.util.List;
import java.util.Map;

/**
 * Runs of calls told as text ("begin 2; point 0 0 1; finish"), each made on a new object. As a run
 * can be made again, the whole of a state can be looked at, the draft too, and two states can be
 * compared: they are the same when every probe answers the same after both.
 */
final class Runs {
  static final int LEAST = Integer.MIN_VALUE;
  static final int MOST = Integer.MAX_VALUE;
  private static final int CALLS_OF_ONE_OBJECT = 512;
  private static final List<String> NAMES = List.of("begin", "point", "knot", "finish", "insert", "remove", "decompose",
      "thin", "elevate", "reverse", "degree", "points", "knotAt", "control", "span", "basis", "locate", "tessellate",
      "vertex");
  private static final int[] ARGUMENTS = {1, 3, 1, 0, 1, 1, 0, 0, 0, 0, 0, 0, 1, 2, 1, 2, 2, 3, 1};
  /** What was read once is kept, as most runs are made many times. */
  private static final Map<String, int[][]> READ = new HashMap<>();
  private static final List<String> PROBES = probes();
  private static String about = "";
  private static int sentences = 0;
  private static int wrong = 0;

  private Runs() {
  }

  /** Names the sentence of the document that the checks from here on are about. */
  static void sentence(String where, String words) {
    about = where + ", \"" + words + "\"";
    sentences++;
  }

  static void end(String name) {
    System.out.println(name + ": " + sentences + " sentences, "
        + (wrong == 0 ? "all answers are as due" : wrong + " answers are not as due"));
    if (wrong != 0) System.exit(1);
  }

  static void due(String before, String call, long want) {
    long[] got = answers(before, call);
    for (int i = 0; i < got.length; i++) check(before, call, i, got[i], want);
  }

  /** One answer for each call of the run. */
  static void dueAll(String before, String calls, long... wants) {
    long[] got = answers(before, calls);
    if (got.length != wants.length) throw new IllegalArgumentException(calls + " has " + got.length + " calls");
    for (int i = 0; i < wants.length; i++) check(before, calls, i, got[i], wants[i]);
  }

  /** The call answers so, and no other call answers otherwise after it than before it. */
  static void refused(String before, String call, long want) {
    due(before, call, want);
    same(before, join(before, call));
  }

  static void same(String one, String other) {
    for (String probe : PROBES) {
      long[] first = answers(one, probe);
      long[] second = answers(other, probe);
      for (int i = 0; i < first.length; i++) {
        if (first[i] != second[i]) {
          fault("after [" + other + "] " + part(probe, i) + " answers " + second[i]
              + ", after [" + one + "] it answers " + first[i]);
          return;
        }
      }
    }
  }

  static void differ(String one, String other) {
    for (String probe : PROBES) {
      if (!Arrays.equals(answers(one, probe), answers(other, probe))) return;
    }
    fault("the probes do not tell [" + one + "] from [" + other + "]");
  }

  static void fault(String text) {
    wrong++;
    if (wrong <= 20) System.out.println(about + ": " + text);
  }

  static String join(String... runs) {
    StringBuilder text = new StringBuilder();
    for (String run : runs) {
      if (text.length() > 0 && !run.isEmpty()) text.append("; ");
      text.append(run);
    }
    return text.toString();
  }

  static String times(int many, String run) {
    String[] all = new String[many];
    Arrays.fill(all, run);
    return join(all);
  }

  /** The answers to the later calls, on a new object on which the earlier ones were made. */
  static long[] answers(String before, String calls) {
    int[][] first = read(before);
    int[][] then = read(calls);
    if (first.length + then.length > CALLS_OF_ONE_OBJECT) {
      throw new IllegalArgumentException("more calls than an object is used for");
    }
    RefinedSpline spline = new RefinedSpline();
    for (int[] call : first) make(spline, call);
    long[] answers = new long[then.length];
    for (int i = 0; i < then.length; i++) answers[i] = make(spline, then[i]);
    return answers;
  }

  private static int[][] read(String run) {
    return READ.computeIfAbsent(run, Runs::readAnew);
  }

  private static int[][] readAnew(String run) {
    if (run.isEmpty()) return new int[0][];
    String[] calls = run.split("; *");
    int[][] all = new int[calls.length][4];
    for (int i = 0; i < calls.length; i++) {
      String[] words = calls[i].split(" ");
      all[i][0] = NAMES.indexOf(words[0]);
      if (all[i][0] < 0 || ARGUMENTS[all[i][0]] != words.length - 1) throw new IllegalArgumentException(calls[i]);
      for (int j = 1; j < words.length; j++) all[i][j] = Integer.parseInt(words[j]);
    }
    return all;
  }

  private static void check(String before, String calls, int i, long got, long want) {
    if (got != want) fault("after [" + before + "] " + part(calls, i) + " answered " + got + ", due is " + want);
  }

  private static String part(String calls, int i) {
    return calls.split("; *")[i];
  }

  /** A boolean counts 1 or 0. */
  private static long make(RefinedSpline s, int[] call) {
    int a = call[1];
    int b = call[2];
    int c = call[3];
    return switch (NAMES.get(call[0])) {
      case "begin" -> s.begin(a) ? 1 : 0;
      case "point" -> s.point(a, b, c) ? 1 : 0;
      case "knot" -> s.knot(a) ? 1 : 0;
      case "finish" -> s.finish();
      case "insert" -> s.insert(a);
      case "remove" -> s.remove(a) ? 1 : 0;
      case "decompose" -> s.decompose();
      case "thin" -> s.thin();
      case "elevate" -> s.elevate() ? 1 : 0;
      case "reverse" -> s.reverse() ? 1 : 0;
      case "degree" -> s.degree();
      case "points" -> s.points();
      case "knotAt" -> s.knotAt(a);
      case "control" -> s.control(a, b);
      case "span" -> s.span(a);
      case "basis" -> s.basis(a, b);
      case "locate" -> s.locate(a, b);
      case "tessellate" -> s.tessellate(a, b, c);
      default -> s.vertex(a);
    };
  }

  /** Degree, points, knots and control points, and one of each beyond them. */
  static String numbers() {
    List<String> calls = new ArrayList<>(List.of("degree", "points"));
    for (int i = -1; i <= 23; i++) calls.add("knotAt " + i);
    for (int axis = 0; axis < 3; axis++) {
      for (int i = -1; i <= 19; i++) calls.add("control " + i + " " + axis);
    }
    return String.join("; ", calls);
  }

  private static String places() {
    List<String> calls = new ArrayList<>();
    for (int u = -1; u <= 361; u += 12) calls.add("span " + u);
    for (int u = 0; u <= 360; u += 15) calls.add("locate " + u + " 0; locate " + u + " 1; span " + u);
    for (int u : new int[] {0, 59, 60, 190, 240, 360}) {
      for (int i = 0; i <= 19; i++) calls.add("basis " + i + " " + u);
    }
    return String.join("; ", calls);
  }

  static String vertices(int from, int to) {
    List<String> calls = new ArrayList<>();
    for (int i = from; i <= to; i++) calls.add("vertex " + i);
    return String.join("; ", calls);
  }

  private static List<String> probes() {
    List<String> all = new ArrayList<>();
    all.add(numbers());
    all.add(places());
    all.add(vertices(-1, 361));
    addDraftProbes(all);
    for (String change : new String[] {"decompose", "thin", "elevate", "reverse"}) all.add(change + "; " + numbers());
    for (int k = 1; k <= 5; k++) {
      all.add("insert " + k + "; " + numbers());
      all.add("remove " + k + "; " + numbers());
    }
    all.add("tessellate 1 100 6; " + vertices(0, 64));
    all.add("tessellate 0 1000 3; " + vertices(0, 64));
    return all;
  }

  /** The draft is seen by what it takes and by the curve that it becomes. */
  private static void addDraftProbes(List<String> all) {
    all.add("finish; " + numbers() + "; " + vertices(0, 64));
    all.add(times(20, "point 9 -9 4; finish") + "; " + numbers());
    for (int k = 1; k <= 5; k++) {
      all.add(times(4, "knot " + k + "; finish") + "; " + numbers());
      all.add("knot " + k + "; " + times(20, "point -9 9 2; finish") + "; " + numbers());
    }
    all.add(times(4, "knot 1") + "; " + times(4, "knot 2") + "; " + times(4, "knot 3") + "; " + times(4, "knot 4")
        + "; " + times(4, "knot 5") + "; finish; " + times(20, "point 1 2 3; finish") + "; " + numbers());
  }
}
