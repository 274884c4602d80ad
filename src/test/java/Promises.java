/** The promises one by one: ordinary calls, the edges that the document names, and wrong inputs. */
public final class Promises {
  private static final int LEAST = Integer.MIN_VALUE;
  private static final int MOST = Integer.MAX_VALUE;
  private static int wrong = 0;

  private static void due(String what, long got, long want) {
    if (got != want) {
      wrong++;
      System.out.println(what + " answered " + got + ", due is " + want);
    }
  }

  private static void due(String what, boolean got, boolean want) {
    due(what, got ? 1L : 0L, want ? 1L : 0L);
  }

  /** A finished curve; its points are given as x, y, w, x, y, w, .. */
  private static RefinedSpline curve(int degree, int[] knots, int... points) {
    RefinedSpline s = new RefinedSpline();
    make(s, degree, knots, points);
    return s;
  }

  private static void make(RefinedSpline s, int degree, int[] knots, int... points) {
    s.begin(degree);
    for (int i = 0; i < points.length; i += 3) s.point(points[i], points[i + 1], points[i + 2]);
    for (int k : knots) s.knot(k);
    due("finish of a whole draft", s.finish(), 0);
  }

  private static int[] knots(int... k) {
    return k;
  }

  private static void dueKnots(String what, RefinedSpline s, int... want) {
    for (int i = 0; i < want.length; i++) due(what + ": knotAt(" + i + ")", s.knotAt(i), want[i]);
    due(what + ": knot behind the last", s.knotAt(want.length), -1);
    due(what + ": knots for points and degree", s.points() + s.degree() + 1, want.length);
  }

  /** One axis of all control points, as halves of whole numbers so that small tables stay readable. */
  private static void dueHalves(String what, RefinedSpline s, int axis, int... want) {
    due(what + ": points", s.points(), want.length);
    for (int i = 0; i < want.length; i++) {
      due(what + ": control(" + i + ", " + axis + ")", s.control(i, axis), want[i] * RefinedSpline.UNIT / 2);
    }
  }

  private static void newObject() {
    RefinedSpline s = new RefinedSpline();
    due("new: point", s.point(0, 0, 1), false);
    due("new: knot", s.knot(1), false);
    due("new: finish", s.finish(), 1);
    due("new: insert", s.insert(3), -1);
    due("new: remove", s.remove(3), false);
    due("new: decompose", s.decompose(), -1);
    due("new: thin", s.thin(), -1);
    due("new: elevate", s.elevate(), false);
    due("new: reverse", s.reverse(), false);
    due("new: degree", s.degree(), 0);
    due("new: points", s.points(), 0);
    due("new: knotAt", s.knotAt(0), -1);
    due("new: control", s.control(0, 0), 0);
    due("new: span", s.span(0), -1);
    due("new: basis", s.basis(0, 0), -1);
    due("new: locate", s.locate(0, 0), RefinedSpline.NONE);
    due("new: tessellate", s.tessellate(0, 0, 0), -1);
    due("new: vertex", s.vertex(0), -1);
    due("UNIT", RefinedSpline.UNIT, 216000L);
    due("NONE", RefinedSpline.NONE, -2147483648L);
  }

  private static void begin() {
    RefinedSpline s = new RefinedSpline();
    for (int bad : new int[] {LEAST, -1, 0, 4, MOST}) due("begin(" + bad + ")", s.begin(bad), false);
    due("no draft after refused begins", s.finish(), 1);
    for (int degree = 1; degree <= 3; degree++) {
      due("begin(" + degree + ")", s.begin(degree), true);
      for (int i = 0; i < degree; i++) s.point(i, 0, 1);
      due("one point too few", s.finish(), 2);
    }
    s.knot(4);
    due("a refused begin", s.begin(4), false);
    s.point(9, 9, 1);
    due("leaves the draft as it is", s.finish(), 3);
    due("begin again", s.begin(1), true);
    due("forgets points", s.finish(), 2);
    due("forgets knots", s.knot(1), true);
  }

  private static void point() {
    RefinedSpline s = new RefinedSpline();
    s.begin(1);
    for (int bad : new int[] {LEAST, -1001, 1001, MOST}) {
      due("point x " + bad, s.point(bad, 0, 1), false);
      due("point y " + bad, s.point(0, bad, 1), false);
    }
    for (int bad : new int[] {LEAST, -1, 0, 17, MOST}) due("point w " + bad, s.point(0, 0, bad), false);
    due("refused points are not kept", s.finish(), 2);
    due("point at the edges", s.point(-1000, 1000, 16), true);
    due("point at the other edges", s.point(1000, -1000, 1), true);
    due("finish", s.finish(), 0);
    due("X is x * w", s.control(0, 0), -16000 * RefinedSpline.UNIT);
    due("Y is y * w", s.control(0, 1), 16000 * RefinedSpline.UNIT);
    due("W is w", s.control(0, 2), 16 * RefinedSpline.UNIT);
    due("X of the next", s.control(1, 0), 1000 * RefinedSpline.UNIT);
    due("Y of the next", s.control(1, 1), -1000 * RefinedSpline.UNIT);
    due("point without a draft", s.point(0, 0, 1), false);
    s.begin(1);
    for (int i = 1; i <= 19; i++) due("point " + i, s.point(0, 0, 1), true);
    due("point 20", s.point(0, 0, 1), false);
    due("19 points are too many for degree 1", s.finish(), 3);
    s.begin(3);
    due("point after a full draft", s.point(0, 0, 1), true);
  }

  private static void knot() {
    RefinedSpline s = new RefinedSpline();
    for (int degree = 1; degree <= 3; degree++) {
      s.begin(degree);
      for (int bad : new int[] {LEAST, -1, 0, 6, MOST}) due("knot " + bad, s.knot(bad), false);
      for (int k = 1; k <= 5; k++) {
        for (int i = 0; i < degree; i++) due("knot " + k, s.knot(k), true);
        due("knot " + k + " once too often", s.knot(k), false);
        due("a knot less than the latest", s.knot(k - 1), false);
      }
    }
    for (int i = 0; i < 19; i++) due("point " + i, s.point(i, -i, 1 + i % 16), true);
    due("the greatest draft", s.finish(), 0);
    dueKnots("the greatest curve", s, 0, 0, 0, 0, 1, 1, 1, 2, 2, 2, 3, 3, 3, 4, 4, 4, 5, 5, 5, 6, 6, 6, 6);
    due("knot without a draft", s.knot(1), false);
    s.begin(2);
    due("begin forgets the latest knot", s.knot(1), true);
  }

  private static void finish() {
    RefinedSpline s = new RefinedSpline();
    s.begin(2);
    s.knot(3);
    due("few points come before many knots", s.finish(), 2);
    s.point(0, 0, 1);
    s.point(1, 1, 1);
    s.point(2, 0, 1);
    due("a knot too many", s.finish(), 3);
    s.point(3, 5, 1);
    due("a whole draft", s.finish(), 0);
    due("no draft any more", s.finish(), 1);
    s.tessellate(0, 0, 0);
    s.begin(1);
    due("a curve stays while there is a draft", s.points(), 4);
    due("an empty draft", s.finish(), 2);
    due("a refused finish keeps the vertices", s.vertex(1), 180);
    s.elevate();
    s.point(5, 6, 7);
    s.point(8, 9, 10);
    due("the draft's degree is its own", s.finish(), 0);
    due("the new curve's degree", s.degree(), 1);
    due("the new curve's points", s.points(), 2);
    due("the vertices are forgotten", s.vertex(0), -1);
    dueKnots("the new curve", s, 0, 0, 6, 6);
    dueHalves("the new curve", s, 0, 70, 160);
  }

  private static void insert() {
    RefinedSpline s = curve(2, knots(), 0, 0, 1, 6, 0, 1, 12, 24, 3);
    for (int bad : new int[] {LEAST, -1, 0, 6, 7, MOST}) due("insert " + bad, s.insert(bad), -1);
    due("insert 3", s.insert(3), 1);
    dueKnots("insert 3", s, 0, 0, 0, 3, 6, 6, 6);
    dueHalves("insert 3", s, 0, 0, 6, 42, 72);
    dueHalves("insert 3", s, 1, 0, 0, 72, 144);
    dueHalves("insert 3", s, 2, 2, 2, 4, 6);
    due("insert 3 again", s.insert(3), 2);
    dueHalves("insert 3 again", s, 0, 0, 6, 24, 42, 72);
    due("insert 3 once too often", s.insert(3), -1);
    due("a refused insert changes nothing", s.points(), 5);
    due("insert 1 between", s.insert(1), 1);
    due("insert 5 behind", s.insert(5), 1);
    dueKnots("insert", s, 0, 0, 0, 1, 3, 3, 5, 6, 6, 6);
    RefinedSpline line = curve(1, knots(3), 0, 0, 1, 6, 6, 1, 0, 12, 1);
    due("degree 1: a knot is there once at most", line.insert(3), -1);
    due("degree 1: insert", line.insert(4), 1);
    dueHalves("degree 1", line, 0, 0, 12, 8, 0);
  }

  private static void remove() {
    RefinedSpline s = curve(2, knots(3), 0, 0, 1, 3, 0, 1, 10, 18, 2, 12, 24, 3);
    due("no knot", s.remove(2), false);
    for (int bad : new int[] {LEAST, -1, 0, 6, 7, MOST}) due("remove " + bad, s.remove(bad), false);
    due("Y and W bear it, X does not", s.remove(3), false);
    dueHalves("a refused remove changes nothing", s, 0, 0, 6, 40, 72);
    dueKnots("a refused remove changes nothing", s, 0, 0, 0, 3, 6, 6, 6);
    s.insert(3);
    due("once of twice", s.remove(3), true);
    dueHalves("once of twice", s, 0, 0, 6, 40, 72);
    due("all three axes bear it", curve(2, knots(3), 0, 0, 1, 1, 4, 1, 3, 4, 1, 4, 0, 1).remove(3), true);
    due("Y does not", curve(2, knots(3), 0, 0, 1, 1, 4, 1, 3, 5, 1, 4, 0, 1).remove(3), false);
    due("W does not", curve(2, knots(3), 0, 0, 8, 0, 0, 5, 0, 0, 4, 0, 0, 8).remove(3), false);
    due("one point that counts from 1 on only", curve(3, knots(1, 5), 0, 0, 1, 0, 0, 1, 0, 0, 1, 0, 0, 1, 0, 1, 1, 0, 0, 1).remove(1), false);
    removeWeights();
    RefinedSpline corner = curve(1, knots(2, 4), 0, 0, 1, 2, 2, 1, 4, 4, 1, 6, 0, 1);
    due("a corner stays", corner.remove(4), false);
    due("no corner goes", corner.remove(2), true);
    dueKnots("no corner", corner, 0, 0, 4, 6, 6);
  }

  /** Weights 8 b b 8 with the knot 3 are 8, 2 * b - 8, 8 without it. */
  private static void removeWeights() {
    RefinedSpline more = curve(2, knots(3), 0, 0, 8, 0, 0, 5, 0, 0, 5, 0, 0, 8);
    due("a weight of 2", more.remove(3), true);
    dueHalves("a weight of 2", more, 2, 16, 4, 16);
    RefinedSpline zero = curve(2, knots(3), 0, 0, 8, 0, 0, 4, 0, 0, 4, 0, 0, 8);
    due("a weight of 0", zero.remove(3), false);
    dueHalves("a weight of 0", zero, 2, 16, 8, 8, 16);
    RefinedSpline less = curve(2, knots(3), 0, 0, 8, 0, 0, 3, 0, 0, 3, 0, 0, 8);
    due("a weight of -2", less.remove(3), false);
    due("thin minds weights too", less.thin(), 0);
    less.insert(3);
    due("thin down to the positive weights", less.thin(), 1);
  }

  private static void decompose() {
    RefinedSpline s = curve(2, knots(1, 4, 4), 0, 0, 1, 6, 0, 1, 12, 6, 1, 18, 6, 1, 24, 0, 1, 30, 0, 1);
    due("decompose", s.decompose(), 1);
    dueKnots("decompose", s, 0, 0, 0, 1, 1, 4, 4, 6, 6, 6);
    due("decompose again", s.decompose(), 0);
    due("nothing to put in", curve(3, knots(), 0, 0, 1, 1, 0, 1, 2, 0, 1, 3, 0, 1).decompose(), 0);
    due("degree 1", curve(1, knots(2), 0, 0, 1, 1, 0, 1, 2, 0, 1).decompose(), 0);
    RefinedSpline all = curve(3, knots(1, 2, 3, 4, 5), 0, 0, 1, 1, 1, 1, 2, 0, 1, 3, 1, 1, 4, 0, 1,
        5, 1, 1, 6, 0, 1, 7, 1, 1, 8, 0, 1);
    due("decompose all", all.decompose(), 10);
    due("19 points", all.points(), 19);
    due("the same curve", all.thin(), 10);
    dueHalves("the same curve", all, 0, 0, 2, 4, 6, 8, 10, 12, 14, 16);
  }

  private static void thin() {
    RefinedSpline s = curve(1, knots(1, 2, 3, 4, 5), 0, 0, 1, 1, 0, 1, 2, 0, 1, 3, 0, 1, 4, 5, 1, 5, 10, 1, 6, 15, 1);
    due("thin", s.thin(), 4);
    dueKnots("thin", s, 0, 0, 3, 6, 6);
    due("thin again", s.thin(), 0);
    RefinedSpline flat = curve(3, knots(2, 2, 2, 5), 1, 1, 1, 1, 1, 1, 1, 1, 1, 1, 1, 1, 1, 1, 1, 1, 1, 1, 1, 1, 1, 1, 1, 1);
    due("thin each as often as it goes", flat.thin(), 4);
    dueKnots("thin all", flat, 0, 0, 0, 0, 6, 6, 6, 6);
  }

  private static void elevate() {
    RefinedSpline s = curve(1, knots(2, 4), 0, 0, 1, 6, 2, 1, 6, 12, 2, 0, 0, 1);
    due("elevate", s.elevate(), true);
    due("degree 2", s.degree(), 2);
    dueKnots("elevate", s, 0, 0, 0, 2, 2, 4, 4, 6, 6, 6);
    dueHalves("elevate", s, 0, 0, 6, 12, 18, 24, 12, 0);
    dueHalves("elevate", s, 2, 2, 2, 2, 3, 4, 3, 2);
    due("elevate again", s.elevate(), true);
    dueKnots("elevate again", s, 0, 0, 0, 0, 2, 2, 2, 4, 4, 4, 6, 6, 6, 6);
    dueHalves("elevate again", s, 0, 0, 4, 8, 12, 16, 20, 24, 16, 8, 0);
    due("elevate at 3", s.elevate(), false);
    due("a refused elevate changes nothing", s.points(), 10);
    RefinedSpline smooth = curve(2, knots(3), 0, 0, 1, 6, 0, 1, 12, 0, 1, 18, 0, 1);
    due("a knot that is there once", smooth.elevate(), true);
    dueKnots("a knot that is there once", smooth, 0, 0, 0, 0, 3, 3, 6, 6, 6, 6);
    dueHalves("a knot that is there once", smooth, 0, 0, 8, 14, 22, 28, 36);
    RefinedSpline all = curve(1, knots(1, 2, 3, 4, 5), 0, 0, 1, 1, 1, 1, 2, 0, 1, 3, 1, 1, 4, 0, 1, 5, 1, 1, 6, 0, 1);
    all.elevate();
    all.elevate();
    due("the most points", all.points(), 19);
  }

  private static void reverse() {
    RefinedSpline s = curve(2, knots(1, 1, 4), 0, 0, 1, 6, 1, 2, 12, 2, 1, 18, 3, 1, 24, 4, 1, 30, 5, 1);
    int before = s.locate(100, 1);
    due("reverse", s.reverse(), true);
    dueKnots("reverse", s, 0, 0, 0, 2, 5, 5, 6, 6, 6);
    dueHalves("reverse", s, 0, 60, 48, 36, 24, 24, 0);
    dueHalves("reverse", s, 2, 2, 2, 2, 2, 4, 2);
    due("the point at 260", s.locate(260, 1), before);
    due("reverse back", s.reverse(), true);
    dueKnots("reverse back", s, 0, 0, 0, 1, 1, 4, 6, 6, 6);
  }

  private static void reads() {
    RefinedSpline s = curve(2, knots(2, 2), 0, 0, 1, 1, 1, 1, 2, 2, 2, 3, 3, 1, 4, 4, 1);
    due("degree", s.degree(), 2);
    due("points", s.points(), 5);
    for (int bad : new int[] {LEAST, -1, 8, MOST}) due("knotAt " + bad, s.knotAt(bad), -1);
    due("the last knot", s.knotAt(7), 6);
    due("the last control point", s.control(4, 1), 4 * RefinedSpline.UNIT);
    for (int bad : new int[] {LEAST, -1, 5, 19, MOST}) due("control of point " + bad, s.control(bad, 2), 0);
    for (int bad : new int[] {LEAST, -1, 3, MOST}) due("control of axis " + bad, s.control(2, bad), 0);
  }

  private static void span() {
    RefinedSpline s = curve(2, knots(2, 2, 5), 0, 0, 1, 1, 1, 1, 2, 2, 2, 3, 3, 1, 4, 4, 1, 5, 5, 1);
    for (int bad : new int[] {LEAST, -1, 361, MOST}) due("span " + bad, s.span(bad), -1);
    int[][] rows = {{0, 2}, {119, 2}, {120, 4}, {299, 4}, {300, 5}, {359, 5}, {360, 5}};
    for (int[] row : rows) due("span " + row[0], s.span(row[0]), row[1]);
  }

  private static void basis() {
    RefinedSpline s = curve(2, knots(3), 0, 0, 1, 1, 1, 1, 2, 2, 2, 3, 3, 1);
    long one = RefinedSpline.UNIT * 3600;
    long[][] rows = {{0, one, 0, 0, 0}, {90, one / 4, one * 5 / 8, one / 8, 0}, {180, 0, one / 2, one / 2, 0},
        {360, 0, 0, 0, one}};
    for (long[] row : rows) {
      int u = (int) row[0];
      for (int i = 0; i < 4; i++) due("basis(" + i + ", " + u + ")", s.basis(i, u), row[i + 1]);
    }
    for (int bad : new int[] {LEAST, -1, 361, MOST}) due("basis at " + bad, s.basis(0, bad), -1);
    for (int bad : new int[] {LEAST, -1, 4, MOST}) due("basis " + bad, s.basis(bad, 0), -1);
    basisSums();
  }

  private static void basisSums() {
    long one = RefinedSpline.UNIT;
    for (int degree = 1; degree <= 3; degree++) {
      one *= 60;
      RefinedSpline s = degree == 1 ? curve(1, knots(2), 0, 0, 1, 1, 1, 1, 2, 2, 2)
          : degree == 2 ? curve(2, knots(1, 5, 5), 0, 0, 1, 0, 0, 1, 0, 0, 1, 0, 0, 1, 0, 0, 1, 0, 0, 1)
          : curve(3, knots(1, 1, 1), 0, 0, 1, 0, 0, 1, 0, 0, 1, 0, 0, 1, 0, 0, 1, 0, 0, 1, 0, 0, 1);
      for (int u = 0; u <= 360; u += 15) {
        long sum = 0;
        for (int i = 0; i < s.points(); i++) sum += s.basis(i, u);
        due("the basis at " + u + " sums to 1, degree " + degree, sum, one);
      }
    }
  }

  private static void locate() {
    RefinedSpline s = curve(1, knots(), -1, 1, 1, 0, 2, 1);
    due("down, below 0", s.locate(1, 0), -998);
    due("down, above 0", s.locate(1, 1), 1002);
    due("a whole thousandth", s.locate(36, 0), -900);
    due("down, a third", s.locate(120, 0), -667);
    due("at the end", s.locate(360, 0), 0);
    for (int bad : new int[] {LEAST, -1, 361, MOST}) due("locate at " + bad, s.locate(bad, 0), RefinedSpline.NONE);
    for (int bad : new int[] {LEAST, -1, 2, MOST}) due("locate axis " + bad, s.locate(0, bad), RefinedSpline.NONE);
    RefinedSpline circle = curve(2, knots(), 1, 0, 1, 1, 1, 1, 0, 1, 2);
    due("weights: x at the half", circle.locate(180, 0), 600);
    due("weights: y at the half", circle.locate(180, 1), 800);
    RefinedSpline far = curve(3, knots(), -1000, 1000, 16, -1000, 1000, 16, -1000, 1000, 16, -1000, 1000, 16);
    due("the least coordinate", far.locate(77, 0), -1000000);
    due("the greatest coordinate", far.locate(77, 1), 1000000);
  }

  private static void tessellate() {
    RefinedSpline s = curve(1, knots(1), 0, 0, 1, 1, 0, 1, 1, 10, 1);
    due("depth 0", s.tessellate(1, 0, 0), 2);
    due("straight lines", s.tessellate(0, 0, 6), 2);
    due("how 1: the length of a chord", s.tessellate(1, 2000, 6), 9);
    due("how 1: one less", s.tessellate(1, 2499, 2), 5);
    int[] ends = {0, 60, 135, 210, 285, 360};
    for (int i = 0; i < ends.length; i++) due("vertex " + i, s.vertex(i), ends[i]);
    due("how 1: just as long", s.tessellate(1, 2500, 2), 5);
    due("how 1: just as long, depth to spare", s.tessellate(1, 2500, 3), 5);
    due("how 1: one less, depth to spare", s.tessellate(1, 2499, 3), 9);
    due("the greatest tolerance", s.tessellate(1, MOST, 6), 2);
    RefinedSpline bow = curve(2, knots(), 0, 0, 1, 3, 8, 1, 6, 0, 1);
    due("how 0: as much as is allowed", bow.tessellate(0, 8000, 6), 1);
    due("how 0: a thousandth more", bow.tessellate(0, 7999, 6), 2);
    due("odd cuts are rounded down", bow.tessellate(1, 0, 6), 64);
    due("vertex 1", bow.vertex(1), 5);
    due("vertex 2", bow.vertex(2), 11);
    due("vertex 64", bow.vertex(64), 360);
    tessellateLimits();
  }

  private static void tessellateLimits() {
    RefinedSpline s = curve(1, knots(1, 2, 3, 4, 5), 0, 0, 1, 1000, 0, 1, 0, 0, 1, 1000, 0, 1, 0, 0, 1, 1000, 0, 1, 0, 0, 1);
    due("no piece below a sixtieth", s.tessellate(1, 0, 6), 360);
    for (int i = 0; i <= 360; i++) due("vertex " + i, s.vertex(i), i);
    due("behind the last", s.vertex(361), -1);
    for (int bad : new int[] {LEAST, -1, 2, MOST}) due("how " + bad, s.tessellate(bad, 0, 0), -1);
    for (int bad : new int[] {LEAST, -1}) due("tolerance " + bad, s.tessellate(0, bad, 0), -1);
    for (int bad : new int[] {LEAST, -1, 7, MOST}) due("depth " + bad, s.tessellate(0, 0, bad), -1);
    due("a refused tessellate changes nothing", s.vertex(359), 359);
  }

  private static void vertex() {
    RefinedSpline s = curve(2, knots(2), 0, 0, 1, 1, 5, 1, 2, 0, 1, 3, 5, 1);
    due("none yet", s.vertex(0), -1);
    s.tessellate(0, 0, 0);
    for (int bad : new int[] {LEAST, -1, 3, 361, MOST}) due("vertex " + bad, s.vertex(bad), -1);
    s.insert(4);
    s.elevate();
    s.decompose();
    s.thin();
    s.reverse();
    s.begin(1);
    due("the vertices outlive changes", s.vertex(1), 120);
    due("the last vertex", s.vertex(2), 360);
    s.tessellate(0, MOST, 6);
    due("the latest tessellate counts", s.vertex(1), 240);
    s.point(0, 0, 1);
    s.point(0, 0, 1);
    s.finish();
    due("none since finish", s.vertex(0), -1);
    s.tessellate(0, 0, 0);
    due("fewer than before", s.vertex(2), -1);
  }

  private static void twoObjects() {
    RefinedSpline a = curve(1, knots(), 0, 0, 1, 6, 6, 1);
    RefinedSpline b = curve(1, knots(2), 9, 9, 1, 6, 6, 1, 3, 3, 1);
    a.tessellate(0, 0, 0);
    b.begin(2);
    due("objects do not share drafts", a.finish(), 1);
    due("objects do not share curves", a.points(), 2);
    due("objects do not share vertices", b.vertex(0), -1);
  }

  public static void main(String[] args) {
    newObject();
    begin();
    point();
    knot();
    finish();
    insert();
    remove();
    decompose();
    thin();
    elevate();
    reverse();
    reads();
    span();
    basis();
    locate();
    tessellate();
    vertex();
    twoObjects();
    System.out.println(wrong == 0 ? "Promises: all answers are as due" : "Promises: " + wrong + " wrong answers");
    if (wrong != 0) System.exit(1);
  }
}
