/** The boundary cases of promises 6 to 11, a test for each sentence that names one. */
public final class ChangeBoundaries {
  private static final int[] NEVER_INTERIOR = {Runs.LEAST, -1, 0, 6, 7, Runs.MOST};
  private static final long UNIT = 216000L;
  private static final String PLACES = places();

  private static String places() {
    String run = "";
    for (int u = 0; u <= 360; u += 4) run = Runs.join(run, "locate " + u + " 0; locate " + u + " 1");
    return run;
  }

  /** Every point that can be told is where it was. */
  private static void keepsItsPlaces(String state, String change) {
    Runs.dueAll(Runs.join(state, change), PLACES, Runs.answers(state, PLACES));
  }

  private static void dueKnots(String state, int... inner) {
    int degree = (int) Runs.answers(state, "degree")[0];
    for (int i = 0; i <= degree; i++) {
      Runs.due(state, "knotAt " + i, 0);
      Runs.due(state, "knotAt " + (degree + 1 + inner.length + i), 6);
    }
    for (int i = 0; i < inner.length; i++) Runs.due(state, "knotAt " + (degree + 1 + i), inner[i]);
    Runs.due(state, "knotAt " + (2 * degree + 2 + inner.length), -1);
    Runs.due(state, "points", inner.length + degree + 1);
  }

  /** A draft of these weights on one spot, so that its weights alone decide. */
  private static String weights(int degree, String knots, int... weights) {
    String run = "begin " + degree;
    for (int w : weights) run = Runs.join(run, "point 3 -2 " + w);
    for (String k : knots.split(" ")) run = Runs.join(run, "knot " + k);
    return Runs.join(run, "finish");
  }

  private static void dueWeights(String state, long... wants) {
    Runs.due(state, "points", wants.length);
    for (int i = 0; i < wants.length; i++) Runs.due(state, "control " + i + " 2", wants[i] * UNIT);
  }

  // Promise 6

  private static void insertAnswersHowMany() {
    Runs.sentence("Promise 6", "Answers how many times k is a knot then");
    for (int degree = 1; degree <= 3; degree++) {
      String bare = Runs.join("begin " + degree, States.points(degree + 1), "finish");
      for (int k = 1; k <= 5; k++) {
        String calls = "insert " + k;
        for (int times = 1; times <= degree; times++) {
          Runs.due(Runs.join(bare, Runs.times(times - 1, calls)), calls, times);
          keepsItsPlaces(bare, Runs.times(times, calls));
        }
      }
      dueKnots(Runs.join(bare, "insert 5; insert 1"), 1, 5);
    }
  }

  private static void insertUntilFull() {
    Runs.sentence("Terms", "each of them at most p times");
    for (int degree = 1; degree <= 3; degree++) {
      String state = Runs.join("begin " + degree, States.points(degree + 1), "finish");
      String filled = state;
      for (int k : new int[] {3, 5, 1, 4, 2}) filled = Runs.join(filled, Runs.times(degree, "insert " + k));
      Runs.due(filled, "points", 6 * degree + 1);
      Runs.due(filled, "knotAt " + (7 * degree + 1), 6);
      Runs.due(filled, "knotAt " + (7 * degree + 2), -1);
      for (int k = 1; k <= 5; k++) Runs.refused(filled, "insert " + k, -1);
      Runs.same(state, Runs.join(filled, "thin"));
    }
  }

  private static void insertWithoutCurve() {
    Runs.sentence("Promise 6", "-1 when there is no curve");
    for (String state : States.WITHOUT_CURVE) {
      for (int k = 1; k <= 5; k++) Runs.refused(state, "insert " + k, -1);
    }
  }

  private static void insertTooSmallOrTooLarge() {
    Runs.sentence("Promise 6", "k is not 1 .. 5");
    for (String state : States.ALL) {
      for (int k : NEVER_INTERIOR) Runs.refused(state, "insert " + k, -1);
    }
    for (int k = 1; k <= 5; k++) Runs.due(States.SMALLEST, "insert " + k, 1);
  }

  private static void insertOnceTooOften() {
    Runs.sentence("Promise 6", "k is a knot degree times already");
    for (int k = 1; k <= 5; k++) Runs.refused(States.GREATEST, "insert " + k, -1);
    Runs.refused(Runs.join(States.CUT, "insert 3"), "insert 3", -1);
    Runs.refused(Runs.join(States.BESIDE, "insert 3"), "insert 3", -1);
    Runs.refused(Runs.join(States.SMALLEST, "insert 1"), "insert 1", -1);
    Runs.due(Runs.join(States.SMALLEST, "insert 1; elevate"), "insert 1", -1);
    Runs.dueAll(States.SMALLEST, "elevate; insert 1; elevate; insert 1; insert 1", 1, 1, 1, 3, -1);
  }

  // Promise 7

  private static void removeTheLast() {
    Runs.sentence("Promise 7", "Takes the interior knot k out once");
    for (int degree = 1; degree <= 3; degree++) {
      String bare = Runs.join("begin " + degree, States.points(degree + 1), "finish");
      for (int k = 1; k <= 5; k++) {
        for (int times = 1; times <= degree; times++) {
          String more = Runs.join(bare, Runs.times(times, "insert " + k));
          Runs.due(more, "remove " + k, 1);
          Runs.same(Runs.join(bare, Runs.times(times - 1, "insert " + k)), Runs.join(more, "remove " + k));
        }
        Runs.refused(bare, "remove " + k, 0);
      }
    }
  }

  private static void removeOfAnotherShape() {
    Runs.sentence("Promise 7", "with which the curve keeps its shape");
    for (int k = 1; k <= 5; k++) Runs.refused(States.GREATEST, "remove " + k, 0);
    Runs.refused(States.CURVE, "remove 3", 0);
    Runs.refused(States.BESIDE, "remove 3", 0);
    String line = "begin 1; point 0 0 1; point 500 500 1; point 1000 1000 1; knot 3; finish";
    Runs.due(line, "remove 3", 1);
    for (String bent : new String[] {"point 501 500 1", "point 500 499 1", "point 499 499 1"}) {
      Runs.refused(line.replace("point 500 500 1", bent), "remove 3", 0);
    }
    Runs.refused("begin 1; point 0 0 1; point 0 0 2; point 0 0 1; knot 3; finish", "remove 3", 0);
    Runs.refused("begin 1; point 0 0 1; point 0 0 1; point 0 0 2; knot 3; finish", "remove 3", 0);
    Runs.refused("begin 1; point 1 0 1; point 2 0 2; point 4 0 4; knot 3; finish", "remove 3", 0);
  }

  private static void removeDownToNoWeight() {
    Runs.sentence("Promise 7", "and all of whose weights are more than 0");
    String one = weights(2, "3", 7, 4, 4, 7);
    Runs.due(one, "remove 3", 1);
    dueWeights(Runs.join(one, "remove 3"), 7, 1, 7);
    Runs.refused(weights(2, "3", 8, 4, 4, 8), "remove 3", 0);
    Runs.refused(weights(2, "3", 7, 3, 3, 7), "remove 3", 0);
    Runs.refused(weights(2, "3", 16, 1, 1, 16), "remove 3", 0);
    String cubic = weights(3, "3", 7, 4, 4, 7, 7);
    Runs.due(cubic, "remove 3", 1);
    dueWeights(Runs.join(cubic, "remove 3"), 7, 1, 7, 7);
    Runs.refused(weights(3, "3", 8, 4, 4, 8, 8), "remove 3", 0);
    Runs.refused(weights(3, "3", 8, 8, 4, 4, 8), "remove 3", 0);
    Runs.refused(weights(3, "3", 7, 7, 3, 3, 7), "remove 3", 0);
    Runs.refused(Runs.join(States.CUT, weights(2, "3", 8, 4, 4, 8), "tessellate 0 0 2; begin 3"), "remove 3", 0);
  }

  private static void removeDownToHalfAWeight() {
    Runs.sentence("Promise 7", "and all of whose weights are more than 0");
    // Without the knot 2, weight 1 is (3 * weight 1 - weight 0) / 2.
    String half = weights(3, "2 3", 2, 1, 1, 2, 2, 3);
    String found = "points; control 0 2; control 1 2; control 2 2; control 3 2; control 4 2";
    Runs.due(half, "remove 2", 1);
    Runs.dueAll(Runs.join(half, "remove 2"), found, 5, 2 * UNIT, UNIT / 2, 2 * UNIT, 2 * UNIT, 3 * UNIT);
    keepsItsPlaces(half, "remove 2");
    Runs.due(Runs.join(half, "reverse"), "remove 4", 1);
    Runs.same(Runs.join(half, "remove 2; reverse"), Runs.join(half, "reverse; remove 4"));
    String less = weights(3, "2 3", 4, 1, 1, 3, 1, 3);
    Runs.refused(less, "remove 2", 0);
    Runs.refused(Runs.join(less, "reverse"), "remove 4", 0);
  }

  private static void removeWithoutCurve() {
    Runs.sentence("Promise 7", "false when .. there is no curve");
    for (String state : States.WITHOUT_CURVE) {
      for (int k = 1; k <= 5; k++) Runs.refused(state, "remove " + k, 0);
    }
  }

  private static void removeOfNoKnot() {
    Runs.sentence("Promise 7", "or k is not an interior knot");
    for (String state : States.ALL) {
      for (int k : NEVER_INTERIOR) Runs.refused(state, "remove " + k, 0);
    }
    for (int k = 1; k <= 5; k++) {
      if (k != 3) Runs.refused(States.BESIDE, "remove " + k, 0);
      Runs.refused(States.SMALLEST, "remove " + k, 0);
      Runs.refused(Runs.join(States.SMALLEST, "insert " + k, "remove " + k), "remove " + k, 0);
    }
  }

  // Promise 8

  private static void decomposeUntilDegreeTimes() {
    Runs.sentence("Promise 8", "Puts every interior knot in until it is there degree times");
    for (int degree = 1; degree <= 3; degree++) {
      String once = Runs.join("begin " + degree, States.points(degree + 6), States.everyKnot(1), "finish");
      Runs.due(once, "decompose", 5 * (degree - 1));
      String byHand = once;
      for (int k = 5; k >= 1; k--) byHand = Runs.join(byHand, Runs.times(degree - 1, "insert " + k));
      Runs.same(byHand, Runs.join(once, "decompose"));
      keepsItsPlaces(once, "decompose");
    }
  }

  private static void decomposeLeavesOthersNone() {
    Runs.sentence("Promise 8", "a number that is no knot stays none");
    for (int degree = 1; degree <= 3; degree++) {
      String bare = Runs.join("begin " + degree, States.points(degree + 1), "finish");
      Runs.refused(bare, "decompose", 0);
      for (int k = 1; k <= 5; k++) {
        String state = Runs.join(bare, "insert " + k);
        int[] knots = new int[degree];
        java.util.Arrays.fill(knots, k);
        Runs.due(state, "decompose", degree - 1);
        dueKnots(Runs.join(state, "decompose"), knots);
      }
    }
  }

  private static void decomposeOfTheFull() {
    Runs.sentence("Promise 8", "Answers how many were put in");
    Runs.refused(States.GREATEST, "decompose", 0);
    Runs.refused(States.SMALLEST, "decompose", 0);
    Runs.refused(Runs.join(States.BESIDE, "decompose"), "decompose", 0);
    Runs.dueAll(States.CUT, "decompose; decompose; points; remove 3; decompose", 1, 0, 5, 1, 1);
  }

  private static void decomposeWithoutCurve() {
    Runs.sentence("Promise 8", "-1 when there is no curve");
    for (String state : States.WITHOUT_CURVE) Runs.refused(state, "decompose", -1);
  }

  // Promise 9

  private static void thinFromFiveDown() {
    Runs.sentence("Promise 9", "Goes over 5, 4, 3, 2, 1 once");
    // Each of the two knots can go alone, but without both a weight would be 0.
    String late = weights(2, "3 5", 12, 6, 6, 10, 12);
    Runs.due(late, "remove 3", 1);
    Runs.due(late, "remove 5", 1);
    Runs.due(late, "thin", 1);
    dueKnots(Runs.join(late, "thin"), 3);
    dueWeights(Runs.join(late, "thin"), 12, 6, 6, 12);
    Runs.same(Runs.join(late, "remove 5"), Runs.join(late, "thin"));
    String early = weights(2, "1 3", 12, 10, 6, 6, 12);
    Runs.due(early, "remove 1", 1);
    Runs.due(early, "remove 3", 1);
    Runs.due(early, "thin", 1);
    dueKnots(Runs.join(early, "thin"), 1);
    dueWeights(Runs.join(early, "thin"), 12, 10, 2, 12);
  }

  private static void thinAsOftenAsRemove() {
    Runs.sentence("Promise 9", "at each of them removes it as often as remove would answer true");
    for (int degree = 1; degree <= 3; degree++) {
      String bare = Runs.join("begin " + degree, States.points(degree + 1), "finish");
      for (int k = 1; k <= 5; k++) {
        Runs.due(Runs.join(bare, Runs.times(degree, "insert " + k)), "thin", degree);
        Runs.same(bare, Runs.join(bare, Runs.times(degree, "insert " + k), "thin"));
      }
    }
    String zero = weights(2, "3", 8, 4, 4, 8);
    String more = Runs.join(zero, "insert 3; insert 5; insert 5");
    Runs.due(more, "thin", 3);
    Runs.same(zero, Runs.join(more, "thin"));
    // Beside the knot 1 the knot 3 can go, and then it is 1 that cannot.
    Runs.due(Runs.join(more, "insert 1"), "thin", 4);
    dueKnots(Runs.join(more, "insert 1; thin"), 1);
  }

  private static void thinOfNothing() {
    Runs.sentence("Promise 9", "Answers how many were taken out");
    for (String state : States.WITH_CURVE) Runs.refused(state, "thin", 0);
    Runs.due(Runs.join(States.SMALLEST, "insert 1; insert 2; insert 3; insert 4; insert 5"), "thin", 5);
    String most = Runs.join("begin 3", Runs.times(19, "point 4 5 6"), States.everyKnot(3), "finish");
    Runs.due(most, "thin", 15);
    dueKnots(Runs.join(most, "thin"));
    Runs.refused(Runs.join(most, "thin"), "thin", 0);
  }

  private static void thinWithoutCurve() {
    Runs.sentence("Promise 9", "-1 when there is no curve");
    for (String state : States.WITHOUT_CURVE) Runs.refused(state, "thin", -1);
  }

  // Promise 10

  private static void elevateEveryKnot() {
    Runs.sentence("Promise 10", "every knot there is (0 and 6 too) is there once more");
    Runs.dueAll(States.SMALLEST, "elevate; degree; points; elevate; degree; points", 1, 2, 3, 1, 3, 4);
    dueKnots(Runs.join(States.SMALLEST, "elevate"));
    dueKnots(Runs.join(States.SMALLEST, "elevate; elevate"));
    dueKnots(Runs.join(States.CURVE, "elevate"), 3, 3);
    dueKnots(Runs.join(States.CURVE, "insert 1; insert 3; insert 5; elevate"), 1, 1, 3, 3, 3, 5, 5);
    keepsItsPlaces(States.CURVE, "insert 1; insert 3; insert 5; elevate");
    keepsItsPlaces(States.SMALLEST, "elevate; elevate");
    for (int degree = 1; degree <= 2; degree++) {
      String full = Runs.join("begin " + degree, States.points(6 * degree + 1), States.everyKnot(degree), "finish");
      Runs.due(full, Runs.times(3 - degree, "elevate"), 1);
      Runs.due(Runs.join(full, Runs.times(3 - degree, "elevate")), "points", 19);
      keepsItsPlaces(full, Runs.times(3 - degree, "elevate"));
    }
  }

  private static void elevateWithoutCurve() {
    Runs.sentence("Promise 10", "false when there is no curve");
    for (String state : States.WITHOUT_CURVE) Runs.refused(state, "elevate", 0);
  }

  private static void elevateBeyondThree() {
    Runs.sentence("Promise 10", "or its degree is 3");
    Runs.refused(States.GREATEST, "elevate", 0);
    Runs.refused("begin 3; point 0 0 1; point 1 1 2; point 2 0 3; point 3 1 4; finish; begin 1", "elevate", 0);
    Runs.refused(Runs.join(States.BESIDE, "elevate"), "elevate", 0);
    Runs.refused(Runs.join(States.SMALLEST, "elevate; elevate"), "elevate", 0);
  }

  // Promise 11

  private static void reverseTheEnds() {
    Runs.sentence("Promise 11", "X, Y and W at parameter u become what they were at 360 - u");
    for (String state : States.WITH_CURVE) {
      Runs.due(state, "reverse", 1);
      for (int u : new int[] {0, 1, 59, 60, 179, 180, 181, 300, 359, 360}) {
        String there = "locate " + u + " 0; locate " + u + " 1";
        String mirrored = there.replace(" " + u + " ", " " + (360 - u) + " ");
        Runs.dueAll(Runs.join(state, "reverse"), mirrored, Runs.answers(state, there));
      }
      Runs.same(state, Runs.join(state, "reverse; reverse"));
    }
    dueWeights(Runs.join(weights(2, "1 3", 12, 10, 6, 6, 12), "reverse"), 12, 6, 6, 10, 12);
  }

  private static void reverseTheKnots() {
    Runs.sentence("Promise 11", "the knots t become 6 - t, in order");
    dueKnots(Runs.join(States.SMALLEST, "reverse"));
    dueKnots(Runs.join(States.SMALLEST, "insert 1; reverse"), 5);
    dueKnots(Runs.join(States.SMALLEST, "insert 5; insert 4; reverse"), 1, 2);
    dueKnots(Runs.join(States.CURVE, "insert 5; insert 5; insert 1; reverse"), 1, 1, 3, 5);
    dueKnots(Runs.join(States.GREATEST, "reverse"), 1, 1, 1, 2, 2, 2, 3, 3, 3, 4, 4, 4, 5, 5, 5);
  }

  private static void reverseWithoutCurve() {
    Runs.sentence("Promise 11", "false when there is no curve");
    for (String state : States.WITHOUT_CURVE) Runs.refused(state, "reverse", 0);
  }

  public static void main(String[] args) {
    insertAnswersHowMany();
    insertUntilFull();
    insertWithoutCurve();
    insertTooSmallOrTooLarge();
    insertOnceTooOften();
    removeTheLast();
    removeOfAnotherShape();
    removeDownToNoWeight();
    removeDownToHalfAWeight();
    removeWithoutCurve();
    removeOfNoKnot();
    decomposeUntilDegreeTimes();
    decomposeLeavesOthersNone();
    decomposeOfTheFull();
    decomposeWithoutCurve();
    thinFromFiveDown();
    thinAsOftenAsRemove();
    thinOfNothing();
    thinWithoutCurve();
    elevateEveryKnot();
    elevateWithoutCurve();
    elevateBeyondThree();
    reverseTheEnds();
    reverseTheKnots();
    reverseWithoutCurve();
    Runs.end("ChangeBoundaries");
  }
}
