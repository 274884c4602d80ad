import java.util.ArrayList;
import java.util.Arrays;
import java.util.List;

/**
 * Every sequence of knots that a curve can have, all 1299 of them, on curves whose control points
 * are known by a formula: with X = -degree * t and Y = t to the power of the degree, X of a control
 * point is less than 0 by the sum of its knots (those at i + 1 .. i + degree), and Y their product.
 */
public final class EveryKnotSequence {
  private static final long UNIT = 216000L;
  private static final int[][] CHOOSE = {{1}, {1, 1}, {1, 2, 1}, {1, 3, 3, 1}};
  private static int wrong = 0;
  private static int sequences = 0;

  private static void due(String what, int degree, List<Integer> inner, long got, long want) {
    if (got != want) {
      wrong++;
      if (wrong <= 20) {
        System.out.println("degree " + degree + ", knots " + inner + ": " + what + " answered " + got + ", due is " + want);
      }
    }
  }

  private static int times(List<Integer> inner, int k) {
    int many = 0;
    for (int one : inner) if (one == k) many++;
    return many;
  }

  private static int[] withEnds(int degree, List<Integer> inner) {
    int[] t = new int[inner.size() + 2 * degree + 2];
    Arrays.fill(t, t.length - degree - 1, t.length, 6);
    for (int i = 0; i < inner.size(); i++) t[degree + 1 + i] = inner.get(i);
    return t;
  }

  private static List<Integer> with(List<Integer> inner, int k) {
    List<Integer> more = new ArrayList<>(inner);
    more.add(k);
    more.sort(null);
    return more;
  }

  private static List<Integer> without(List<Integer> inner, int k) {
    List<Integer> fewer = new ArrayList<>(inner);
    fewer.remove(Integer.valueOf(k));
    return fewer;
  }

  /** The sum of all products of q of the knots i + 1 .. i + degree. */
  private static long symmetric(int[] t, int i, int degree, int q) {
    long[] sums = {1, 0, 0, 0};
    for (int j = 1; j <= degree; j++) {
      for (int e = 3; e >= 1; e--) sums[e] += sums[e - 1] * t[i + j];
    }
    return sums[q];
  }

  private static RefinedSpline known(int degree, List<Integer> inner, int bumped, int bump) {
    RefinedSpline s = new RefinedSpline();
    int[] t = withEnds(degree, inner);
    due("begin", degree, inner, s.begin(degree) ? 1 : 0, 1);
    for (int i = 0; i < inner.size() + degree + 1; i++) {
      int x = (int) -symmetric(t, i, degree, 1);
      int y = (int) symmetric(t, i, degree, degree);
      due("point", degree, inner, s.point(x, i == bumped ? y + bump : y, 1) ? 1 : 0, 1);
    }
    for (int k : inner) due("knot", degree, inner, s.knot(k) ? 1 : 0, 1);
    due("finish", degree, inner, s.finish(), 0);
    return s;
  }

  /** The knots and control points of the known curve of an earlier degree, raised to this one. */
  private static void dueKnown(String what, RefinedSpline s, int degree, List<Integer> inner, int earlier) {
    int[] t = withEnds(degree, inner);
    int points = inner.size() + degree + 1;
    due(what + ": degree", degree, inner, s.degree(), degree);
    due(what + ": points", degree, inner, s.points(), points);
    for (int i = 0; i < t.length; i++) due(what + ": knotAt(" + i + ")", degree, inner, s.knotAt(i), t[i]);
    due(what + ": knotAt behind the last", degree, inner, s.knotAt(t.length), -1);
    for (int i = 0; i < points; i++) {
      long x = -UNIT * earlier * symmetric(t, i, degree, 1) / degree;
      long y = UNIT * symmetric(t, i, degree, earlier) / CHOOSE[degree][earlier];
      due(what + ": X of " + i, degree, inner, s.control(i, 0), x);
      due(what + ": Y of " + i, degree, inner, s.control(i, 1), y);
      due(what + ": W of " + i, degree, inner, s.control(i, 2), UNIT);
    }
    due(what + ": W behind the last", degree, inner, s.control(points, 2), 0);
  }

  private static void insertAndRemove(int degree, List<Integer> inner) {
    for (int k = 1; k <= 5; k++) {
      int many = times(inner, k);
      RefinedSpline s = known(degree, inner, -1, 0);
      due("insert " + k, degree, inner, s.insert(k), many == degree ? -1 : many + 1);
      dueKnown("insert " + k, s, degree, many == degree ? inner : with(inner, k), degree);
      s = known(degree, inner, -1, 0);
      due("remove " + k, degree, inner, s.remove(k) ? 1 : 0, many > 0 ? 1 : 0);
      dueKnown("remove " + k, s, degree, many > 0 ? without(inner, k) : inner, degree);
    }
  }

  private static void all(int degree, List<Integer> inner) {
    List<Integer> whole = new ArrayList<>();
    for (int k = 1; k <= 5; k++) {
      for (int i = 0; i < degree && inner.contains(k); i++) whole.add(k);
    }
    RefinedSpline s = known(degree, inner, -1, 0);
    due("decompose", degree, inner, s.decompose(), whole.size() - inner.size());
    dueKnown("decompose", s, degree, whole, degree);
    due("decompose again", degree, inner, s.decompose(), 0);
    due("thin", degree, inner, s.thin(), whole.size());
    dueKnown("thin", s, degree, List.of(), degree);
    due("thin again", degree, inner, s.thin(), 0);
  }

  private static void raise(int degree, List<Integer> inner) {
    RefinedSpline s = known(degree, inner, -1, 0);
    List<Integer> knots = inner;
    for (int higher = degree + 1; higher <= 3; higher++) {
      List<Integer> more = new ArrayList<>(knots);
      for (int k = 1; k <= 5; k++) if (knots.contains(k)) more.add(k);
      more.sort(null);
      knots = more;
      due("elevate", degree, inner, s.elevate() ? 1 : 0, 1);
      dueKnown("elevate", s, higher, knots, degree);
    }
    due("elevate at 3", degree, inner, s.elevate() ? 1 : 0, 0);
    dueKnown("elevate at 3", s, 3, knots, degree);
  }

  private static void turn(int degree, List<Integer> inner) {
    RefinedSpline s = known(degree, inner, -1, 0);
    RefinedSpline before = known(degree, inner, -1, 0);
    due("reverse", degree, inner, s.reverse() ? 1 : 0, 1);
    int last = inner.size() + 2 * degree + 1;
    for (int i = 0; i <= last; i++) due("reversed knot " + i, degree, inner, s.knotAt(i), 6 - before.knotAt(last - i));
    for (int i = 0; i < before.points(); i++) {
      for (int axis = 0; axis < 3; axis++) {
        due("reversed point " + i, degree, inner, s.control(i, axis), before.control(before.points() - 1 - i, axis));
      }
    }
    due("reverse back", degree, inner, s.reverse() ? 1 : 0, 1);
    dueKnown("reverse back", s, degree, inner, degree);
  }

  private static void spans(int degree, List<Integer> inner) {
    RefinedSpline s = known(degree, inner, -1, 0);
    for (int u = 0; u <= 360; u++) {
      int span = degree;
      for (int k : inner) if (60 * k <= u) span++;
      due("span " + u, degree, inner, s.span(u), span);
    }
  }

  private static void places(int degree, List<Integer> inner) {
    RefinedSpline across = known(degree, inner, -1, 0);
    RefinedSpline up = known(degree, inner, -1, 0);
    long scale = 1;
    for (int q = 0; q < degree; q++) scale *= 60;
    for (int u = 0; u <= 360; u++) {
      long power = 1;
      for (int q = 0; q < degree; q++) power *= u;
      due("locate " + u + " 0", degree, inner, across.locate(u, 0), Math.floorDiv(-1000L * degree * u, 60L));
      due("locate " + u + " 1", degree, inner, up.locate(u, 1), Math.floorDiv(1000L * power, scale));
    }
  }

  /** At most degree + 1 of the basis count at u, and degree + 1 known sums leave them no choice. */
  private static void basis(int degree, List<Integer> inner) {
    int[] t = withEnds(degree, inner);
    for (int u : new int[] {0, 1, 59, 60, 61, 100, 120, 179, 180, 200, 240, 299, 300, 359, 360}) {
      RefinedSpline s = known(degree, inner, -1, 0);
      int span = s.span(u);
      long[] sums = new long[degree + 1];
      for (int i = 0; i < s.points(); i++) {
        long b = s.basis(i, u);
        boolean counts = i <= span && i >= span - degree;
        if (!counts) due("basis(" + i + ", " + u + ")", degree, inner, b, 0);
        for (int q = 0; q <= degree; q++) sums[q] += symmetric(t, i, degree, q) * b;
      }
      for (int q = 0; q <= degree; q++) {
        long want = UNIT * CHOOSE[degree][q];
        for (int e = 0; e < degree; e++) want *= e < q ? u : 60;
        due("sum " + q + " of the basis at " + u, degree, inner, sums[q], want);
      }
    }
  }

  /**
   * One control point moved by 1. Only its own basis is as rough at k as the knots let it be, and
   * only when all of the k's are among its degree + 2 knots: then no k can be taken out.
   */
  private static void bumps(int degree, List<Integer> inner) {
    int[] t = withEnds(degree, inner);
    for (int bumped = 0; bumped < inner.size() + degree + 1; bumped++) {
      for (int k = 1; k <= 5; k++) {
        int many = times(inner, k);
        if (many == 0) continue;
        int own = 0;
        for (int j = bumped; j <= bumped + degree + 1; j++) if (t[j] == k) own++;
        RefinedSpline s = known(degree, inner, bumped, 1);
        due("remove " + k + " with point " + bumped + " moved", degree, inner, s.remove(k) ? 1 : 0, own < many ? 1 : 0);
        due("points then", degree, inner, s.points(), inner.size() + degree + (own < many ? 0 : 1));
        due("weights, " + k + " with point " + bumped, degree, inner, heavier(degree, inner, bumped, k), own < many ? 1 : 0);
      }
    }
  }

  /** The same with weights: all are 1 but one, on one spot. */
  private static int heavier(int degree, List<Integer> inner, int bumped, int k) {
    RefinedSpline s = new RefinedSpline();
    s.begin(degree);
    for (int i = 0; i < inner.size() + degree + 1; i++) s.point(0, 0, i == bumped ? 2 : 1);
    for (int one : inner) s.knot(one);
    s.finish();
    return s.remove(k) ? 1 : 0;
  }

  private static void sequence(int degree, List<Integer> inner) {
    sequences++;
    dueKnown("finish", known(degree, inner, -1, 0), degree, inner, degree);
    insertAndRemove(degree, inner);
    all(degree, inner);
    raise(degree, inner);
    turn(degree, inner);
    spans(degree, inner);
    places(degree, inner);
    basis(degree, inner);
    bumps(degree, inner);
  }

  private static void each(int degree, int k, List<Integer> inner) {
    if (k == 6) {
      sequence(degree, inner);
      return;
    }
    List<Integer> more = new ArrayList<>(inner);
    for (int many = 0; many <= degree; many++) {
      each(degree, k + 1, more);
      more.add(k);
    }
  }

  public static void main(String[] args) {
    for (int degree = 1; degree <= 3; degree++) each(degree, 1, List.of());
    due("the number of sequences", 0, List.of(), sequences, 32 + 243 + 1024);
    System.out.println("EveryKnotSequence: " + sequences + " sequences, "
        + (wrong == 0 ? "all answers are as due" : wrong + " answers are not as due"));
    if (wrong != 0) System.exit(1);
  }
}
