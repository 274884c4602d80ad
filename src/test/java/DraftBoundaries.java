/** The boundary cases of promises 1 to 5, a test for each sentence that names one. */
public final class DraftBoundaries {
  private static final int LEAST = Runs.LEAST;
  private static final int MOST = Runs.MOST;
  private static final long UNIT = 216000L;

  // Promise 1

  private static void neitherCurveNorDraft() {
    Runs.sentence("Promise 1", "Neither a curve nor a draft.");
    String[] refusedWithFalse = {"point 0 0 1", "knot 1", "remove 3", "elevate", "reverse"};
    String[] refusedWithMinusOne = {"insert 3", "decompose", "thin", "knotAt 0", "span 0", "basis 0 0",
        "tessellate 0 0 0", "vertex 0"};
    for (String call : refusedWithFalse) Runs.refused(States.NEW, call, 0);
    for (String call : refusedWithMinusOne) Runs.refused(States.NEW, call, -1);
    for (String call : new String[] {"degree", "points", "control 0 0"}) Runs.refused(States.NEW, call, 0);
    Runs.refused(States.NEW, "finish", 1);
    Runs.refused(States.NEW, "locate 0 0", RefinedSpline.NONE);
    String all = Runs.join(String.join("; ", refusedWithFalse), String.join("; ", refusedWithMinusOne), "finish");
    Runs.same(States.NEW, all);
    Runs.same(States.CURVE, Runs.join(all, States.CURVE));
  }

  // Promise 2

  private static void beginsAnEmptyDraft() {
    Runs.sentence("Promise 2", "Begins an empty draft of that degree");
    for (int degree = 1; degree <= 3; degree++) {
      String begun = "begin " + degree;
      Runs.due(States.NEW, begun, 1);
      Runs.due(begun, "finish", 2);
      Runs.due(Runs.join(begun, States.points(degree)), "finish", 2);
      Runs.due(Runs.join(begun, States.points(degree + 1)), "finish", 0);
      Runs.due(Runs.join(begun, Runs.times(degree, "knot 3")), "knot 3", 0);
      Runs.due(Runs.join(begun, Runs.times(degree - 1, "knot 3")), "knot 3", 1);
    }
  }

  private static void earlierDraftIsForgotten() {
    Runs.sentence("Promise 2", "a draft that there was is forgotten");
    for (int degree = 1; degree <= 3; degree++) {
      String begin = "begin " + degree;
      Runs.same(begin, Runs.join(States.DRAFT, begin));
      Runs.same(begin, Runs.join(States.FULL_DRAFT, begin));
      Runs.same(begin, Runs.join(begin, begin));
      Runs.same(Runs.join(States.CUT, begin), Runs.join(States.BESIDE, begin));
    }
  }

  private static void beginLeavesTheCurve() {
    Runs.sentence("Terms", "it becomes the curve by finish()");
    String read = Runs.join(Runs.numbers(), Runs.vertices(-1, 60));
    for (String state : States.WITH_CURVE) {
      for (int degree = 1; degree <= 3; degree++) {
        Runs.dueAll(Runs.join(state, "begin " + degree), read, Runs.answers(state, read));
      }
    }
  }

  private static void degreeTooSmall() {
    Runs.sentence("Promise 2", "false, changing nothing, when the degree is not 1 .. (3)");
    for (String state : States.ALL) {
      for (int degree : new int[] {0, -1, -3, LEAST}) Runs.refused(state, "begin " + degree, 0);
    }
  }

  private static void degreeTooLarge() {
    Runs.sentence("Promise 2", "false, changing nothing, when the degree is not (1) .. 3");
    for (String state : States.ALL) {
      for (int degree : new int[] {4, 5, MOST}) Runs.refused(state, "begin " + degree, 0);
    }
  }

  // Promise 3

  private static void pointIsTimesItsWeight() {
    Runs.sentence("Promise 3", "with X = x * w, Y = y * w and W = w");
    int[][] edges = {{-1000, 1000, 16}, {1000, -1000, 16}, {-1000, -1000, 1}, {1000, 1000, 1}, {0, 0, 16}};
    for (int[] p : edges) {
      String run = "begin 1; point " + p[0] + " " + p[1] + " " + p[2] + "; point 1 2 3; finish";
      Runs.dueAll(run, "control 0 0; control 0 1; control 0 2; control 1 0; control 1 1; control 1 2",
          p[0] * p[2] * UNIT, p[1] * p[2] * UNIT, p[2] * UNIT, 3 * UNIT, 6 * UNIT, 3 * UNIT);
    }
  }

  private static void pointWithoutDraft() {
    Runs.sentence("Promise 3", "false when there is no draft");
    for (String state : States.WITHOUT_DRAFT) Runs.refused(state, "point 1 2 3", 0);
  }

  private static void draftHasNineteenPoints() {
    Runs.sentence("Promise 3", "it has 19 already");
    for (int degree = 1; degree <= 3; degree++) {
      String begun = "begin " + degree;
      Runs.due(begun, States.points(19), 1);
      Runs.refused(Runs.join(begun, States.points(19)), "point 1 2 3", 0);
      Runs.refused(Runs.join(States.CUT, begun, States.points(19)), "point 1 2 3", 0);
      Runs.due(Runs.join(begun, States.points(19), begun), States.points(19), 1);
    }
    Runs.dueAll(States.FULL_DRAFT, "point 1 2 3; finish; points; control 18 2; control 19 2", 0, 0, 19, 11 * UNIT, 0);
  }

  private static void abscissaTooSmallOrTooLarge() {
    Runs.sentence("Promise 3", "x .. is not -1000 .. 1000");
    for (String state : States.WITH_DRAFT) {
      for (int x : new int[] {-1001, LEAST, 1001, MOST}) Runs.refused(state, "point " + x + " 0 1", 0);
    }
    for (int x : new int[] {-1000, -999, 999, 1000}) Runs.due(States.DRAFT, "point " + x + " 0 1", 1);
  }

  private static void ordinateTooSmallOrTooLarge() {
    Runs.sentence("Promise 3", "or y is not -1000 .. 1000");
    for (String state : States.WITH_DRAFT) {
      for (int y : new int[] {-1001, LEAST, 1001, MOST}) Runs.refused(state, "point 0 " + y + " 1", 0);
    }
    for (int y : new int[] {-1000, -999, 999, 1000}) Runs.due(States.DRAFT, "point 0 " + y + " 1", 1);
  }

  private static void weightTooSmallOrTooLarge() {
    Runs.sentence("Promise 3", "or w is not 1 .. 16");
    for (String state : States.WITH_DRAFT) {
      for (int w : new int[] {0, -1, -16, LEAST, 17, 256, MOST}) Runs.refused(state, "point 0 0 " + w, 0);
    }
    for (int w : new int[] {1, 2, 15, 16}) Runs.due(States.DRAFT, "point 0 0 " + w, 1);
  }

  // Promise 4

  private static void knotWithoutDraft() {
    Runs.sentence("Promise 4", "false when there is no draft");
    for (String state : States.WITHOUT_DRAFT) {
      for (int k = 1; k <= 5; k++) Runs.refused(state, "knot " + k, 0);
    }
  }

  private static void knotTooSmallOrTooLarge() {
    Runs.sentence("Promise 4", "k is not 1 .. 5");
    for (String state : new String[] {"begin 1", "begin 2", "begin 3", States.DRAFT, States.BESIDE, States.FULL_DRAFT}) {
      for (int k : new int[] {0, -1, LEAST, 6, 7, MOST}) Runs.refused(state, "knot " + k, 0);
    }
    for (int k = 1; k <= 5; k++) Runs.due("begin 1", "knot " + k, 1);
  }

  private static void knotLessThanTheLatest() {
    Runs.sentence("Promise 4", "k is less than the latest knot of the draft");
    for (int degree = 1; degree <= 3; degree++) {
      for (int latest = 1; latest <= 5; latest++) {
        String state = "begin " + degree + "; knot " + latest;
        for (int k = 1; k < latest; k++) Runs.refused(state, "knot " + k, 0);
        for (int k = latest + 1; k <= 5; k++) Runs.due(state, "knot " + k, 1);
        Runs.due(state, "knot " + latest, degree > 1 ? 1 : 0);
        Runs.due(Runs.join(state, "begin " + degree), "knot 1", 1);
      }
    }
    Runs.refused("begin 3; knot 2; knot 2; knot 4; knot 1", "knot 2", 0);
  }

  private static void knotAsOftenAsTheDegree() {
    Runs.sentence("Promise 4", "the draft has k already as many times as its degree says");
    for (int degree = 1; degree <= 3; degree++) {
      for (int k = 1; k <= 5; k++) {
        String alone = Runs.join("begin " + degree, Runs.times(degree, "knot " + k));
        Runs.due("begin " + degree, Runs.times(degree, "knot " + k), 1);
        Runs.refused(alone, "knot " + k, 0);
        if (k < 5) Runs.due(alone, Runs.times(degree, "knot " + (k + 1)), 1);
      }
      String full = Runs.join("begin " + degree, States.everyKnot(degree));
      Runs.due("begin " + degree, States.everyKnot(degree), 1);
      for (int k = 1; k <= 5; k++) Runs.refused(full, "knot " + k, 0);
    }
  }

  private static void knotsDoNotWaitForPoints() {
    Runs.sentence("Promise 4", "Appends an interior knot to the draft");
    String points = States.points(19);
    Runs.same(States.FULL_DRAFT, Runs.join("begin 3", States.everyKnot(3), points));
    Runs.dueAll(Runs.join("begin 3", points), States.everyKnot(3), Runs.answers("begin 3", States.everyKnot(3)));
  }

  // Promise 5

  private static void finishWithoutDraft() {
    Runs.sentence("Promise 5", "1 when there is no draft");
    for (String state : States.WITHOUT_DRAFT) Runs.refused(state, "finish", 1);
    Runs.refused(Runs.join(States.DRAFT, "point 1 1 1; point 2 2 2; point 3 3 3; finish"), "finish", 1);
    Runs.refused("begin 0; begin 4", "finish", 1);
  }

  private static void finishWithTooFewPoints() {
    Runs.sentence("Promise 5", "otherwise 2 when it has fewer than degree + 1 control points");
    for (int degree = 1; degree <= 3; degree++) {
      for (int many = 0; many <= degree; many++) {
        String state = Runs.join("begin " + degree, States.points(many));
        Runs.refused(state, "finish", 2);
        Runs.refused(Runs.join(States.CUT, state), "finish", 2);
        Runs.refused(Runs.join(state, "knot 3"), "finish", 2);
        Runs.refused(Runs.join(state, States.everyKnot(degree)), "finish", 2);
      }
      Runs.due(Runs.join("begin " + degree, States.points(degree + 1)), "finish", 0);
    }
  }

  private static void finishWithOtherKnots() {
    Runs.sentence("Promise 5", "otherwise 3 when its interior knots are not exactly control points - degree - 1");
    for (int degree = 1; degree <= 3; degree++) {
      for (int knots = 0; knots <= 5 * degree; knots++) {
        String inner = firstKnots(degree, knots);
        String exact = Runs.join("begin " + degree, inner, States.points(knots + degree + 1));
        Runs.dueAll(exact, "finish; finish; degree; points", 0, 1, degree, knots + degree + 1);
        if (knots + degree + 1 < 19) Runs.refused(Runs.join(exact, "point 1 2 3"), "finish", 3);
        if (knots > 0) {
          Runs.refused(Runs.join("begin " + degree, inner, States.points(knots + degree)), "finish", 3);
        }
      }
      Runs.refused(Runs.join(States.CUT, "begin " + degree, States.points(19)), "finish", 3);
    }
  }

  /** As many interior knots, 1 first, each as often as the degree allows. */
  private static String firstKnots(int degree, int many) {
    String run = "";
    for (int i = 0; i < many; i++) run = Runs.join(run, "knot " + (1 + i / degree));
    return run;
  }

  private static void draftIsTheCurve() {
    Runs.sentence("Promise 5", "Otherwise 0: the draft is the curve now");
    Runs.dueAll(States.SMALLEST, "degree; points; knotAt 0; knotAt 1; knotAt 2; knotAt 3; knotAt 4", 1, 2, 0, 0, 6, 6, -1);
    Runs.dueAll(States.GREATEST, "degree; points; knotAt 3; knotAt 4; knotAt 18; knotAt 19; knotAt 22; knotAt 23",
        3, 19, 0, 1, 5, 6, 6, -1);
    for (int i = 0; i < 19; i++) {
      int x = 37 * i - 300;
      int y = i % 3 * 90 - i;
      int w = 1 + 5 * i % 16;
      Runs.dueAll(States.GREATEST, "control " + i + " 0; control " + i + " 1; control " + i + " 2",
          x * w * UNIT, y * w * UNIT, w * UNIT);
    }
  }

  private static void earlierCurveIsForgotten() {
    Runs.sentence("Promise 5", "the curve before is forgotten, and so are the vertices");
    for (String state : new String[] {States.CURVE, States.CUT, States.SMALLEST, States.GREATEST,
        Runs.join(States.GREATEST, "tessellate 1 0 6"), Runs.join(States.CUT, "elevate; decompose; reverse")}) {
      Runs.same(States.CURVE, Runs.join(state, States.CURVE));
      Runs.same(States.SMALLEST, Runs.join(state, States.SMALLEST));
      Runs.same(States.GREATEST, Runs.join(state, States.GREATEST));
    }
  }

  private static void noDraftAnyMore() {
    Runs.sentence("Promise 5", "and there is no draft any more");
    for (String state : States.WITHOUT_DRAFT) {
      if (state.isEmpty()) continue;
      Runs.dueAll(state, "point 0 0 1; knot 1; knot 5; finish", 0, 0, 0, 1);
    }
  }

  private static void refusedFinishCanBeMended() {
    Runs.sentence("Terms", "A call that is refused changes nothing.");
    String calls = "finish; begin 2; finish; knot 3; point 0 0 1; finish; point 100 200 1; finish; "
        + "point 300 200 2; finish; point 400 0 1; finish";
    Runs.dueAll(States.NEW, calls, 1, 1, 2, 1, 1, 2, 1, 2, 1, 3, 1, 0);
    Runs.same(States.CURVE, calls);
  }

  public static void main(String[] args) {
    neitherCurveNorDraft();
    beginsAnEmptyDraft();
    earlierDraftIsForgotten();
    beginLeavesTheCurve();
    degreeTooSmall();
    degreeTooLarge();
    pointIsTimesItsWeight();
    pointWithoutDraft();
    draftHasNineteenPoints();
    abscissaTooSmallOrTooLarge();
    ordinateTooSmallOrTooLarge();
    weightTooSmallOrTooLarge();
    knotWithoutDraft();
    knotTooSmallOrTooLarge();
    knotLessThanTheLatest();
    knotAsOftenAsTheDegree();
    knotsDoNotWaitForPoints();
    finishWithoutDraft();
    finishWithTooFewPoints();
    finishWithOtherKnots();
    draftIsTheCurve();
    earlierCurveIsForgotten();
    noDraftAnyMore();
    refusedFinishCanBeMended();
    Runs.end("DraftBoundaries");
  }
}
