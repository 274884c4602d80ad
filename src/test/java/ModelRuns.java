import java.math.BigInteger;
import java.util.ArrayList;
import java.util.List;
import java.util.Random;

/**
 * Long mixed runs, each call compared with a slow model. The model keeps the shape itself, as
 * polynomials in fractions on each stretch of length 1, and finds control points by solving the
 * linear equations that the document's basis gives, so it shares no formula with the class.
 */
public final class ModelRuns {
  private static final int RUNS = 260;
  private static final int CALLS = 512;
  private static int wrong = 0;
  private static long removals = 0;
  private static long refusedRemovals = 0;
  private static long refusedForWeight = 0;

  /** A fraction in lowest terms. */
  private static final class Frac {
    static final Frac ZERO = of(0);
    static final Frac ONE = of(1);
    final BigInteger top;
    final BigInteger bottom;

    private Frac(BigInteger top, BigInteger bottom) {
      this.top = top;
      this.bottom = bottom;
    }

    static Frac of(long n) {
      return new Frac(BigInteger.valueOf(n), BigInteger.ONE);
    }

    static Frac of(BigInteger top, BigInteger bottom) {
      if (bottom.signum() < 0) {
        top = top.negate();
        bottom = bottom.negate();
      }
      BigInteger g = top.gcd(bottom);
      return g.equals(BigInteger.ONE) ? new Frac(top, bottom) : new Frac(top.divide(g), bottom.divide(g));
    }

    static Frac of(long top, long bottom) {
      return of(BigInteger.valueOf(top), BigInteger.valueOf(bottom));
    }

    boolean isZero() {
      return top.signum() == 0;
    }

    Frac plus(Frac o) {
      return o.isZero() ? this : isZero() ? o
          : of(top.multiply(o.bottom).add(o.top.multiply(bottom)), bottom.multiply(o.bottom));
    }

    Frac minus(Frac o) {
      return plus(new Frac(o.top.negate(), o.bottom));
    }

    Frac times(Frac o) {
      return isZero() || o.isZero() ? ZERO : of(top.multiply(o.top), bottom.multiply(o.bottom));
    }

    Frac over(Frac o) {
      return isZero() ? ZERO : of(top.multiply(o.bottom), bottom.multiply(o.top));
    }

    BigInteger floor() {
      BigInteger[] both = top.divideAndRemainder(bottom);
      return both[1].signum() < 0 ? both[0].subtract(BigInteger.ONE) : both[0];
    }

    long whole() {
      if (!bottom.equals(BigInteger.ONE)) {
        throw new IllegalStateException("not whole: " + top + "/" + bottom);
      }
      return top.longValueExact();
    }
  }

  /** The document, read word by word. */
  private static final class Model {
    int draftDegree = 0;
    List<int[]> draftPoints = new ArrayList<>();
    List<Integer> draftKnots = new ArrayList<>();
    int degree = 0;
    int[] t = new int[0];
    Frac[][] c = new Frac[3][0];
    Frac[][][] shape;
    List<Integer> vertices = new ArrayList<>();
    final int[][] located = new int[2][361];
    final boolean[] known = new boolean[361];

    int n() {
      return degree == 0 ? 0 : t.length - degree - 1;
    }

    boolean begin(int d) {
      if (d < 1 || d > 3) return false;
      draftDegree = d;
      draftPoints = new ArrayList<>();
      draftKnots = new ArrayList<>();
      return true;
    }

    boolean point(int x, int y, int w) {
      if (draftDegree == 0 || draftPoints.size() == 19) return false;
      if (x < -1000 || x > 1000 || y < -1000 || y > 1000 || w < 1 || w > 16) return false;
      draftPoints.add(new int[] {x * w, y * w, w});
      return true;
    }

    boolean knot(int k) {
      if (draftDegree == 0 || k < 1 || k > 5) return false;
      if (!draftKnots.isEmpty() && k < draftKnots.get(draftKnots.size() - 1)) return false;
      if (count(draftKnots, k) == draftDegree) return false;
      draftKnots.add(k);
      return true;
    }

    static int count(List<Integer> all, int k) {
      int many = 0;
      for (int one : all) if (one == k) many++;
      return many;
    }

    int finish() {
      if (draftDegree == 0) return 1;
      if (draftPoints.size() < draftDegree + 1) return 2;
      if (draftKnots.size() != draftPoints.size() - draftDegree - 1) return 3;
      degree = draftDegree;
      t = withEnds(draftKnots, degree);
      c = new Frac[3][n()];
      for (int axis = 0; axis < 3; axis++) {
        for (int i = 0; i < n(); i++) c[axis][i] = Frac.of(draftPoints.get(i)[axis]);
      }
      shape = shapeOf();
      draftDegree = 0;
      vertices = new ArrayList<>();
      return 0;
    }

    static int[] withEnds(List<Integer> inner, int degree) {
      int[] all = new int[inner.size() + 2 * degree + 2];
      for (int i = 0; i <= degree; i++) all[all.length - 1 - i] = 6;
      for (int i = 0; i < inner.size(); i++) all[degree + 1 + i] = inner.get(i);
      return all;
    }

    List<Integer> inner() {
      List<Integer> list = new ArrayList<>();
      for (int i = degree + 1; i < n(); i++) list.add(t[i]);
      return list;
    }

    /** The polynomial of B(i, q) on the stretch j .. j + 1, as four coefficients. */
    static Frac[] basisPolynomial(int[] t, int i, int q, int j) {
      Frac[] p = {Frac.ZERO, Frac.ZERO, Frac.ZERO, Frac.ZERO};
      if (t[i] > j || t[i + q + 1] < j + 1) return p;
      if (q == 0) {
        p[0] = Frac.ONE;
        return p;
      }
      if (t[i + q] > t[i]) {
        addLinear(p, basisPolynomial(t, i, q - 1, j), -t[i], 1, t[i + q] - t[i]);
      }
      if (t[i + q + 1] > t[i + 1]) {
        addLinear(p, basisPolynomial(t, i + 1, q - 1, j), t[i + q + 1], -1, t[i + q + 1] - t[i + 1]);
      }
      return p;
    }

    static void addLinear(Frac[] to, Frac[] from, int constant, int slope, int divisor) {
      for (int d = 0; d < 4; d++) {
        to[d] = to[d].plus(from[d].times(Frac.of(constant, divisor)));
        if (d > 0) to[d] = to[d].plus(from[d - 1].times(Frac.of(slope, divisor)));
      }
    }

    Frac[][][] shapeOf() {
      Frac[][][] s = new Frac[3][6][4];
      for (Frac[][] a : s) for (Frac[] b : a) java.util.Arrays.fill(b, Frac.ZERO);
      java.util.Arrays.fill(known, false);
      for (int i = 0; i < n(); i++) {
        for (int j = 0; j < 6; j++) {
          Frac[] p = basisPolynomial(t, i, degree, j);
          for (int axis = 0; axis < 3; axis++) {
            for (int d = 0; d < 4; d++) s[axis][j][d] = s[axis][j][d].plus(c[axis][i].times(p[d]));
          }
        }
      }
      return s;
    }

    /** The control points with the shape, for other knots and degree; null when there are none. */
    Frac[][] solve(int[] knots, int p) {
      int many = knots.length - p - 1;
      List<Frac[]> rows = new ArrayList<>();
      for (int j = 0; j < 6; j++) {
        Frac[][] b = new Frac[many][];
        for (int i = 0; i < many; i++) b[i] = basisPolynomial(knots, i, p, j);
        for (int d = 0; d < 4; d++) {
          Frac[] row = new Frac[many + 3];
          for (int i = 0; i < many; i++) row[i] = b[i][d];
          for (int axis = 0; axis < 3; axis++) row[many + axis] = shape[axis][j][d];
          rows.add(row);
        }
      }
      for (int col = 0; col < many; col++) eliminate(rows, col);
      for (int r = many; r < rows.size(); r++) {
        for (int axis = 0; axis < 3; axis++) if (!rows.get(r)[many + axis].isZero()) return null;
      }
      Frac[][] answer = new Frac[3][many];
      for (int axis = 0; axis < 3; axis++) {
        for (int i = 0; i < many; i++) answer[axis][i] = rows.get(i)[many + axis].over(rows.get(i)[i]);
      }
      return answer;
    }

    static void eliminate(List<Frac[]> rows, int col) {
      int pivot = col;
      while (rows.get(pivot)[col].isZero()) pivot++;
      Frac[] p = rows.get(pivot);
      rows.set(pivot, rows.get(col));
      rows.set(col, p);
      for (Frac[] row : rows) {
        if (row == p || row[col].isZero()) continue;
        Frac f = row[col].over(p[col]);
        for (int k = col; k < row.length; k++) row[k] = row[k].minus(f.times(p[k]));
      }
    }

    int insert(int k) {
      if (degree == 0 || k < 1 || k > 5) return -1;
      List<Integer> list = inner();
      if (count(list, k) == degree) return -1;
      list.add(k);
      list.sort(null);
      int[] knots = withEnds(list, degree);
      c = solve(knots, degree);
      t = knots;
      return count(list, k);
    }

    boolean remove(int k) {
      if (degree == 0) return false;
      List<Integer> list = inner();
      if (!list.remove(Integer.valueOf(k))) return false;
      int[] knots = withEnds(list, degree);
      Frac[][] found = solve(knots, degree);
      removals++;
      if (found == null) {
        refusedRemovals++;
        return false;
      }
      for (Frac w : found[2]) {
        if (w.top.signum() <= 0) {
          refusedForWeight++;
          return false;
        }
      }
      c = found;
      t = knots;
      return true;
    }

    int decompose() {
      if (degree == 0) return -1;
      int before = n();
      List<Integer> list = new ArrayList<>();
      for (int k = 1; k < 6; k++) {
        if (count(inner(), k) > 0) for (int i = 0; i < degree; i++) list.add(k);
      }
      int[] knots = withEnds(list, degree);
      c = solve(knots, degree);
      t = knots;
      return n() - before;
    }

    int thin() {
      if (degree == 0) return -1;
      int taken = 0;
      for (int k = 5; k >= 1; k--) while (remove(k)) taken++;
      return taken;
    }

    boolean elevate() {
      if (degree == 0 || degree == 3) return false;
      List<Integer> list = inner();
      for (int k = 1; k < 6; k++) if (list.contains(k)) list.add(k);
      list.sort(null);
      int[] knots = withEnds(list, degree + 1);
      c = solve(knots, degree + 1);
      t = knots;
      degree++;
      return true;
    }

    boolean reverse() {
      if (degree == 0) return false;
      int[] knots = new int[t.length];
      for (int i = 0; i < t.length; i++) knots[i] = 6 - t[t.length - 1 - i];
      Frac[][][] turned = new Frac[3][6][];
      for (int axis = 0; axis < 3; axis++) {
        for (int j = 0; j < 6; j++) turned[axis][5 - j] = mirrored(shape[axis][j]);
      }
      shape = turned;
      java.util.Arrays.fill(known, false);
      t = knots;
      c = solve(knots, degree);
      return true;
    }

    /** The coefficients of p(6 - x), by Horner's rule. */
    static Frac[] mirrored(Frac[] p) {
      Frac[] q = {Frac.ZERO, Frac.ZERO, Frac.ZERO, Frac.ZERO};
      for (int d = 3; d >= 0; d--) {
        Frac[] next = new Frac[4];
        for (int e = 0; e < 4; e++) {
          next[e] = q[e].times(Frac.of(6)).minus(e > 0 ? q[e - 1] : Frac.ZERO);
        }
        next[0] = next[0].plus(p[d]);
        q = next;
      }
      return q;
    }

    int knotAt(int i) {
      return degree == 0 || i < 0 || i >= t.length ? -1 : t[i];
    }

    long control(int i, int axis) {
      if (i < 0 || i >= n() || axis < 0 || axis > 2) return 0;
      return c[axis][i].times(Frac.of(216000)).whole();
    }

    int span(int u) {
      if (degree == 0 || u < 0 || u > 360) return -1;
      int r = n() - 1;
      while (60 * t[r] > u) r--;
      return r;
    }

    Frac basisValue(int i, int q, int u) {
      if (q == 0) return i == span(u) ? Frac.ONE : Frac.ZERO;
      Frac sum = Frac.ZERO;
      if (t[i + q] != t[i]) {
        sum = sum.plus(Frac.of(u - 60 * t[i], 60L * (t[i + q] - t[i])).times(basisValue(i, q - 1, u)));
      }
      if (t[i + q + 1] != t[i + 1]) {
        sum = sum.plus(Frac.of(60 * t[i + q + 1] - u, 60L * (t[i + q + 1] - t[i + 1]))
            .times(basisValue(i + 1, q - 1, u)));
      }
      return sum;
    }

    long basis(int i, int u) {
      if (degree == 0 || u < 0 || u > 360 || i < 0 || i >= n()) return -1;
      Frac value = basisValue(i, degree, u).times(Frac.of(216000));
      for (int q = 0; q < degree; q++) value = value.times(Frac.of(60));
      return value.whole();
    }

    Frac at(int axis, int u) {
      Frac x = Frac.of(u, 60);
      Frac value = Frac.ZERO;
      for (int d = 3; d >= 0; d--) value = value.times(x).plus(shape[axis][Math.min(u / 60, 5)][d]);
      return value;
    }

    int locate(int u, int axis) {
      if (degree == 0 || u < 0 || u > 360 || axis < 0 || axis > 1) return Integer.MIN_VALUE;
      if (!known[u]) {
        Frac w = at(2, u);
        for (int a = 0; a < 2; a++) {
          located[a][u] = at(a, u).over(w).times(Frac.of(1000)).floor().intValueExact();
        }
        known[u] = true;
      }
      return located[axis][u];
    }

    int tessellate(int how, int tolerance, int depth) {
      if (degree == 0 || how < 0 || how > 1 || tolerance < 0 || depth < 0 || depth > 6) return -1;
      vertices = new ArrayList<>();
      vertices.add(0);
      int last = 0;
      for (int knot : t) {
        if (knot > last) pieces(60 * last, 60 * knot, how, tolerance, depth);
        last = knot;
      }
      return vertices.size() - 1;
    }

    void pieces(int a, int b, int how, int tolerance, int halvings) {
      boolean chord = halvings == 0 || b - a < 2;
      int m = (a + b) / 2;
      if (!chord) {
        chord = true;
        for (int axis = 0; axis < 2; axis++) {
          long atA = locate(a, axis);
          long atB = locate(b, axis);
          long off = how == 0 ? atA + atB - 2L * locate(m, axis) : atA - atB;
          if (Math.abs(off) > tolerance) chord = false;
        }
      }
      if (chord) {
        vertices.add(b);
      } else {
        pieces(a, m, how, tolerance, halvings - 1);
        pieces(m, b, how, tolerance, halvings - 1);
      }
    }

    int vertex(int i) {
      return i < 0 || i >= vertices.size() ? -1 : vertices.get(i);
    }
  }

  /** One object beside its model; every call goes to both. */
  private static final class Pair {
    final int run;
    final RefinedSpline spline = new RefinedSpline();
    final Model model = new Model();
    final StringBuilder told = new StringBuilder();
    int calls = 0;

    Pair(int run) {
      this.run = run;
    }

    boolean hasRoom(int more) {
      return calls + more <= CALLS;
    }

    void call(String name, int... a) {
      calls++;
      long got = onSpline(name, a);
      long due = onModel(name, a);
      told.append(name).append(java.util.Arrays.toString(a)).append(" -> ").append(got).append('\n');
      if (got != due) {
        wrong++;
        if (wrong <= 5) System.out.println("run " + run + ", due is " + due + ":\n" + told);
      }
    }

    long onSpline(String name, int[] a) {
      return switch (name) {
        case "begin" -> spline.begin(a[0]) ? 1 : 0;
        case "point" -> spline.point(a[0], a[1], a[2]) ? 1 : 0;
        case "knot" -> spline.knot(a[0]) ? 1 : 0;
        case "finish" -> spline.finish();
        case "insert" -> spline.insert(a[0]);
        case "remove" -> spline.remove(a[0]) ? 1 : 0;
        case "decompose" -> spline.decompose();
        case "thin" -> spline.thin();
        case "elevate" -> spline.elevate() ? 1 : 0;
        case "reverse" -> spline.reverse() ? 1 : 0;
        case "degree" -> spline.degree();
        case "points" -> spline.points();
        case "knotAt" -> spline.knotAt(a[0]);
        case "control" -> spline.control(a[0], a[1]);
        case "span" -> spline.span(a[0]);
        case "basis" -> spline.basis(a[0], a[1]);
        case "locate" -> spline.locate(a[0], a[1]);
        case "tessellate" -> spline.tessellate(a[0], a[1], a[2]);
        case "vertex" -> spline.vertex(a[0]);
        default -> throw new IllegalArgumentException(name);
      };
    }

    long onModel(String name, int[] a) {
      return switch (name) {
        case "begin" -> model.begin(a[0]) ? 1 : 0;
        case "point" -> model.point(a[0], a[1], a[2]) ? 1 : 0;
        case "knot" -> model.knot(a[0]) ? 1 : 0;
        case "finish" -> model.finish();
        case "insert" -> model.insert(a[0]);
        case "remove" -> model.remove(a[0]) ? 1 : 0;
        case "decompose" -> model.decompose();
        case "thin" -> model.thin();
        case "elevate" -> model.elevate() ? 1 : 0;
        case "reverse" -> model.reverse() ? 1 : 0;
        case "degree" -> model.degree;
        case "points" -> model.n();
        case "knotAt" -> model.knotAt(a[0]);
        case "control" -> model.control(a[0], a[1]);
        case "span" -> model.span(a[0]);
        case "basis" -> model.basis(a[0], a[1]);
        case "locate" -> model.locate(a[0], a[1]);
        case "tessellate" -> model.tessellate(a[0], a[1], a[2]);
        case "vertex" -> model.vertex(a[0]);
        default -> throw new IllegalArgumentException(name);
      };
    }
  }

  private static final int[] ODD = {Integer.MIN_VALUE, -1001, -361, -1, 0, 1, 2, 3, 5, 6, 7, 16, 17, 19, 20, 22, 23,
      360, 361, 1000, 1001, Integer.MAX_VALUE};

  private static int odd(Random random) {
    return ODD[random.nextInt(ODD.length)];
  }

  private static int coordinate(Random random) {
    return random.nextInt(4) == 0 ? (random.nextBoolean() ? 1000 : -1000) : random.nextInt(2001) - 1000;
  }

  private static int weight(Random random) {
    return random.nextInt(4) == 0 ? (random.nextBoolean() ? 1 : 16) : 1 + random.nextInt(16);
  }

  private static List<Integer> innerKnots(Random random, int degree) {
    List<Integer> list = new ArrayList<>();
    int chance = 1 + random.nextInt(4);
    for (int k = 1; k < 6; k++) {
      for (int i = 0; i < degree; i++) if (random.nextInt(4) < chance) list.add(k);
    }
    return list;
  }

  private static void draftAnything(Pair pair, Random random) {
    int degree = 1 + random.nextInt(3);
    List<Integer> inner = innerKnots(random, degree);
    pair.call("begin", degree);
    for (int k : inner) pair.call("knot", k);
    for (int i = 0; i < inner.size() + degree + 1; i++) {
      pair.call("point", coordinate(random), coordinate(random), weight(random));
    }
    pair.call("finish");
  }

  /** Points on a straight line at the knots' means, so that every knot can be taken out. */
  private static void draftLine(Pair pair, Random random) {
    int degree = 1 + random.nextInt(3);
    List<Integer> inner = innerKnots(random, degree);
    int[] t = Model.withEnds(inner, degree);
    int w = weight(random);
    int slope = random.nextInt(41) - 20;
    pair.call("begin", degree);
    for (int i = 0; i < inner.size() + degree + 1; i++) {
      int sum = 0;
      for (int j = 1; j <= degree; j++) sum += t[i + j];
      pair.call("point", slope * sum, 7 - sum, w);
    }
    for (int k : inner) pair.call("knot", k);
    pair.call("finish");
  }

  /** One polynomial cut at 3, whose weights without that knot may be 0 or less. */
  private static void draftCutAtThree(Pair pair, Random random) {
    int degree = 2 + random.nextInt(2);
    int[] w = new int[degree + 2];
    int last = degree + 1;
    for (int attempt = 0; attempt < 1000; attempt++) {
      for (int i = 0; i < last; i++) w[i] = 1 + random.nextInt(16);
      w[last] = degree == 2 ? 2 * w[2] - 2 * w[1] + w[0] : 2 * w[3] - 2 * w[2] + 2 * w[1] - w[0];
      if (w[last] >= 1 && w[last] <= 16) break;
    }
    int x = coordinate(random);
    int y = coordinate(random);
    pair.call("begin", degree);
    pair.call("knot", 3);
    for (int one : w) pair.call("point", x, y, one);
    pair.call("finish");
  }

  private static void makeCurve(Pair pair, Random random) {
    switch (random.nextInt(4)) {
      case 0 -> draftLine(pair, random);
      case 1 -> draftCutAtThree(pair, random);
      default -> draftAnything(pair, random);
    }
  }

  private static void change(Pair pair, Random random) {
    switch (random.nextInt(12)) {
      case 0, 1, 2 -> pair.call("insert", 1 + random.nextInt(5));
      case 3, 4, 5, 6 -> pair.call("remove", 1 + random.nextInt(5));
      case 7 -> pair.call("decompose");
      case 8 -> pair.call("thin");
      case 9 -> pair.call("elevate");
      case 10 -> pair.call("reverse");
      default -> tessellate(pair, random);
    }
  }

  private static void tessellate(Pair pair, Random random) {
    int[] tolerances = {0, 1, 10, 1000, 50000, Integer.MAX_VALUE};
    pair.call("tessellate", random.nextInt(2), tolerances[random.nextInt(6)] , random.nextInt(7));
    for (int i = 0; i < 12; i++) pair.call("vertex", random.nextInt(pair.model.vertices.size() + 2));
  }

  private static void ask(Pair pair, Random random) {
    int i = random.nextInt(21) - 1;
    int u = random.nextInt(3) == 0 ? 60 * random.nextInt(7) : random.nextInt(361);
    switch (random.nextInt(8)) {
      case 0 -> pair.call("degree");
      case 1 -> pair.call("points");
      case 2 -> pair.call("knotAt", random.nextInt(25) - 1);
      case 3 -> pair.call("control", i, random.nextInt(3));
      case 4 -> pair.call("span", u);
      case 5 -> pair.call("basis", i, u);
      case 6 -> pair.call("locate", u, random.nextInt(2));
      default -> pair.call("vertex", random.nextInt(20) - 1);
    }
  }

  private static void askOddly(Pair pair, Random random) {
    String[] none = {"finish"};
    String[] one = {"begin", "knot", "insert", "remove", "knotAt", "span", "vertex"};
    String[] two = {"control", "basis", "locate"};
    String[] three = {"point", "tessellate"};
    switch (random.nextInt(5)) {
      case 0 -> pair.call(none[0]);
      case 1, 2 -> pair.call(one[random.nextInt(one.length)], odd(random));
      case 3 -> pair.call(two[random.nextInt(two.length)], odd(random), odd(random));
      default -> pair.call(three[random.nextInt(three.length)], odd(random), odd(random), odd(random));
    }
  }

  private static void askAll(Pair pair) {
    pair.call("degree");
    pair.call("points");
    for (int i = -1; i < 24; i++) pair.call("knotAt", i);
    for (int i = 0; i < 20; i++) for (int axis = 0; axis < 3; axis++) pair.call("control", i, axis);
  }

  private static void run(int number) {
    Random random = new Random(977L * number + 5);
    Pair pair = new Pair(number);
    if (number % 5 == 0) for (int i = 0; i < 30; i++) askOddly(pair, random);
    while (pair.hasRoom(240)) {
      makeCurve(pair, random);
      for (int i = 0; i < 14 && pair.hasRoom(150); i++) {
        change(pair, random);
        for (int j = 0; j < 6; j++) ask(pair, random);
        if (random.nextInt(3) == 0) askOddly(pair, random);
      }
    }
    if (pair.hasRoom(90)) askAll(pair);
  }

  public static void main(String[] args) {
    for (int number = 1; number <= RUNS; number++) run(number);
    boolean thorough = removals - refusedRemovals - refusedForWeight > 100 && refusedRemovals > 100 && refusedForWeight > 20;
    if (!thorough) System.out.println("too few removals: " + removals + ", refused " + refusedRemovals
        + ", for a weight " + refusedForWeight);
    System.out.println(wrong == 0 ? "ModelRuns: all answers are as due" : "ModelRuns: " + wrong + " wrong answers");
    if (wrong != 0 || !thorough) System.exit(1);
  }
}
