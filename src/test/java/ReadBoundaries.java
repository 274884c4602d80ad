/** The boundary cases of promises 12 to 18, a test for each sentence that names one. */
public final class ReadBoundaries {
  private static final int[] NO_PARAMETER = {Runs.LEAST, -361, -1, 361, 420, Runs.MOST};
  private static final int[] NO_INDEX = {Runs.LEAST, -2, -1, Runs.MOST - 4, Runs.MOST};
  private static final long UNIT = 216000L;

  // Promises 12 and 13

  private static void degreeOfNoCurve() {
    Runs.sentence("Promise 12", "0 when there is no curve");
    for (String state : States.WITHOUT_CURVE) Runs.refused(state, "degree", 0);
    for (int degree = 1; degree <= 3; degree++) {
      Runs.refused(Runs.join("begin " + degree, States.points(degree + 1)), "degree", 0);
      Runs.refused(Runs.join("begin " + degree, States.points(degree + 1), "finish"), "degree", degree);
    }
    Runs.refused(States.BESIDE, "degree", 2);
  }

  private static void pointsOfNoCurve() {
    Runs.sentence("Promise 13", "0 when there is no curve");
    for (String state : States.WITHOUT_CURVE) Runs.refused(state, "points", 0);
    Runs.refused("begin 1; point 0 0 1; point 1 1 1", "points", 0);
    Runs.refused(States.SMALLEST, "points", 2);
    Runs.refused(States.BESIDE, "points", 4);
    Runs.refused(States.GREATEST, "points", 19);
  }

  // Promise 14

  private static void knotAtOfNoCurve() {
    Runs.sentence("Promise 14", "-1 when there is no curve");
    for (String state : States.WITHOUT_CURVE) {
      for (int i : new int[] {Runs.LEAST, -1, 0, 1, 3, 22, 23, Runs.MOST}) Runs.refused(state, "knotAt " + i, -1);
    }
  }

  private static void knotAtBeyondTheKnots() {
    Runs.sentence("Promise 14", "i is not 0 .. points() + degree()");
    String[] states = {States.SMALLEST, States.CURVE, States.BESIDE, States.GREATEST,
        Runs.join(States.GREATEST, States.SMALLEST), Runs.join(States.CURVE, "insert 1; elevate; remove 1")};
    for (String state : states) {
      int last = (int) (Runs.answers(state, "points")[0] + Runs.answers(state, "degree")[0]);
      Runs.refused(state, "knotAt 0", 0);
      Runs.refused(state, "knotAt " + last, 6);
      Runs.refused(state, "knotAt " + (last + 1), -1);
      for (int i : NO_INDEX) Runs.refused(state, "knotAt " + i, -1);
    }
    Runs.due(States.GREATEST, "knotAt 22", 6);
    Runs.due(Runs.join(States.GREATEST, States.SMALLEST), "knotAt 4; knotAt 5; knotAt 22", -1);
  }

  // Promise 15

  private static void controlOfNoCurve() {
    Runs.sentence("Promise 15", "0 when there is no curve");
    for (String state : States.WITHOUT_CURVE) {
      for (int axis = -1; axis <= 3; axis++) Runs.refused(state, "control 0 " + axis, 0);
    }
  }

  private static void controlOfNoPoint() {
    Runs.sentence("Promise 15", "no such control point");
    for (String state : States.WITH_CURVE) {
      long points = Runs.answers(state, "points")[0];
      for (int axis = 0; axis <= 2; axis++) {
        for (int i : NO_INDEX) Runs.refused(state, "control " + i + " " + axis, 0);
        Runs.refused(state, "control " + points + " " + axis, 0);
        Runs.refused(state, "control 19 " + axis, 0);
      }
      if (Runs.answers(state, "control " + (points - 1) + " 2")[0] <= 0) Runs.fault("the last point has no weight");
    }
    Runs.due(Runs.join(States.GREATEST, States.SMALLEST), "control 2 2; control 18 2", 0);
    Runs.due(Runs.join(States.SMALLEST, "insert 3; remove 3"), "control 2 2", 0);
  }

  private static void controlOfNoAxis() {
    Runs.sentence("Promise 15", "or no such axis");
    for (String state : States.WITH_CURVE) {
      for (int axis : new int[] {Runs.LEAST, -1, 3, 4, Runs.MOST}) {
        Runs.refused(state, "control 0 " + axis, 0);
        Runs.refused(state, "control 1 " + axis, 0);
      }
    }
    Runs.dueAll(States.SMALLEST, "control 0 0; control 0 1; control 0 2; control 1 0; control 1 1; control 1 2",
        -16000 * UNIT, 16000 * UNIT, 16 * UNIT, 1000 * UNIT, -1000 * UNIT, UNIT);
  }

  // Promise 16 and the span of "Terms"

  private static void spanOfNoCurve() {
    Runs.sentence("Promise 16", "-1 when there is no curve");
    for (String state : States.WITHOUT_CURVE) {
      for (int u : new int[] {-1, 0, 180, 360, 361}) Runs.refused(state, "span " + u, -1);
    }
  }

  private static void spanBeyondTheParameters() {
    Runs.sentence("Promise 16", "or u is not 0 .. 360");
    for (String state : States.WITH_CURVE) {
      for (int u : NO_PARAMETER) Runs.refused(state, "span " + u, -1);
    }
    Runs.dueAll(States.GREATEST, "span 0; span 360", 3, 18);
    Runs.dueAll(States.SMALLEST, "span 0; span 360", 1, 1);
  }

  private static void spanAtKnots() {
    Runs.sentence("Terms", "the greatest index r from p to n - 1 with 60 * t_r <= u");
    for (int k = 1; k <= 5; k++) {
      int at = 60 * k;
      String once = Runs.join(States.SMALLEST, "insert " + k);
      Runs.dueAll(once, "span 0; span " + (at - 1) + "; span " + at + "; span 359; span 360", 1, 1, 2, 2, 2);
      Runs.dueAll(States.GREATEST, "span " + (at - 1) + "; span " + at + "; span " + (at + 59), 3 * k, 3 * k + 3, 3 * k + 3);
    }
  }

  // Promise 17 and the basis of "Terms"

  private static void basisOfNoCurve() {
    Runs.sentence("Promise 17", "-1 when there is no curve");
    for (String state : States.WITHOUT_CURVE) {
      for (int i = -1; i <= 3; i++) Runs.refused(state, "basis " + i + " 0", -1);
    }
  }

  private static void basisBeyondTheParameters() {
    Runs.sentence("Promise 17", "u is not 0 .. 360");
    for (String state : States.WITH_CURVE) {
      for (int u : NO_PARAMETER) {
        Runs.refused(state, "basis 0 " + u, -1);
        Runs.refused(state, "basis 1 " + u, -1);
      }
    }
  }

  private static void basisOfNoPoint() {
    Runs.sentence("Promise 17", "or there is no control point i");
    for (String state : States.WITH_CURVE) {
      long points = Runs.answers(state, "points")[0];
      for (int u : new int[] {0, 77, 360}) {
        for (int i : NO_INDEX) Runs.refused(state, "basis " + i + " " + u, -1);
        Runs.refused(state, "basis " + points + " " + u, -1);
        Runs.refused(state, "basis 19 " + u, -1);
      }
    }
  }

  private static void basisAtTheEnds() {
    Runs.sentence("Promise 17", "B(i, degree) at u, times UNIT and 60 to the power of the degree");
    long[] ones = {0, UNIT * 60, UNIT * 3600, UNIT * 216000};
    for (String state : States.WITH_CURVE) {
      int degree = (int) Runs.answers(state, "degree")[0];
      int last = (int) Runs.answers(state, "points")[0] - 1;
      for (int i = 0; i <= last; i++) {
        Runs.due(state, "basis " + i + " 0", i == 0 ? ones[degree] : 0);
        Runs.due(state, "basis " + i + " 360", i == last ? ones[degree] : 0);
      }
    }
  }

  private static void basisWithoutDivisor() {
    Runs.sentence("Terms", "a term whose divisor is 0 is left out");
    long one = UNIT * 216000;
    for (int k = 1; k <= 5; k++) {
      int at = 60 * k;
      for (int i = 0; i < 19; i++) Runs.due(States.GREATEST, "basis " + i + " " + at, i == 3 * k ? one : 0);
      // Half way from knot to knot the four that count are 1, 3, 3 and 1 eighths.
      Runs.dueAll(States.GREATEST, "basis " + (3 * k - 1) + " " + (at + 30) + "; basis " + 3 * k + " " + (at + 30)
          + "; basis " + (3 * k + 1) + " " + (at + 30) + "; basis " + (3 * k + 2) + " " + (at + 30) + "; basis "
          + (3 * k + 3) + " " + (at + 30), 0, one / 8, one * 3 / 8, one * 3 / 8, one / 8);
    }
    Runs.dueAll(States.SMALLEST, "basis 0 1; basis 1 1; basis 0 359; basis 1 359",
        UNIT * 359 / 6, UNIT / 6, UNIT / 6, UNIT * 359 / 6);
  }

  // Promise 18

  private static void locateOfNoCurve() {
    Runs.sentence("Promise 18", "NONE when there is no curve");
    for (String state : States.WITHOUT_CURVE) {
      for (int axis = -1; axis <= 2; axis++) {
        Runs.refused(state, "locate 0 " + axis, RefinedSpline.NONE);
        Runs.refused(state, "locate 360 " + axis, RefinedSpline.NONE);
      }
    }
  }

  private static void locateBeyondTheParameters() {
    Runs.sentence("Promise 18", "u is not 0 .. 360");
    for (String state : States.WITH_CURVE) {
      for (int u : NO_PARAMETER) {
        Runs.refused(state, "locate " + u + " 0", RefinedSpline.NONE);
        Runs.refused(state, "locate " + u + " 1", RefinedSpline.NONE);
      }
    }
    Runs.dueAll(States.SMALLEST, "locate 0 0; locate 0 1; locate 360 0; locate 360 1", -1000000, 1000000, 1000000, -1000000);
  }

  private static void locateOfNoAxis() {
    Runs.sentence("Promise 18", "or axis is not 0 or 1");
    for (String state : States.WITH_CURVE) {
      for (int axis : new int[] {Runs.LEAST, -1, 2, 3, Runs.MOST}) {
        for (int u : new int[] {0, 100, 360}) Runs.refused(state, "locate " + u + " " + axis, RefinedSpline.NONE);
      }
    }
  }

  private static void locateRoundsDown() {
    Runs.sentence("Promise 18", "rounded down to a whole number (towards minus infinity)");
    String line = "begin 1; point 0 0 1; point 1 -1 1; finish";
    // A sixtieth is 1000 / 360 = 2.77.. thousandths; only every ninth of them is whole.
    Runs.dueAll(line, "locate 1 0; locate 1 1; locate 9 0; locate 9 1; locate 359 0; locate 359 1", 2, -3, 25, -25, 997, -998);
    Runs.dueAll(line, "locate 0 0; locate 0 1; locate 360 0; locate 360 1", 0, 0, 1000, -1000);
    // X / W at u is 16 * u / (16 * u + 360 - u) of a thousand thousandths.
    String heavy = "begin 1; point 0 0 1; point 1 -1 16; finish";
    Runs.dueAll(heavy, "locate 24 0; locate 24 1; locate 1 0; locate 1 1; locate 359 0; locate 359 1",
        533, -534, 42, -43, 999, -1000);
    Runs.dueAll(heavy, "locate 360 0; locate 360 1; locate 0 1", 1000, -1000, 0);
  }

  private static void locateTheFarthest() {
    Runs.sentence("Terms", "All numbers are exact.");
    String corner = Runs.join("begin 3", Runs.times(19, "point -1000 1000 16"), States.everyKnot(3), "finish");
    for (int u = 0; u <= 360; u += 10) Runs.dueAll(corner, "locate " + u + " 0; locate " + u + " 1", -1000000, 1000000);
    String thinned = Runs.join(corner, "thin; insert 1; insert 5");
    for (int u = 0; u <= 360; u++) Runs.dueAll(thinned, "locate " + u + " 0; locate " + u + " 1", -1000000, 1000000);
    // X and Y at 1 of 6: (125 * -1000 + 75 * 1000 + 15 * -1000 + 1000) / 216 = -64000 / 216 = -296.296..
    String wild = "begin 3; point -1000 1000 16; point 1000 -1000 16; point -1000 1000 16; point 1000 -1000 16; finish";
    Runs.dueAll(wild, "locate 60 0; locate 60 1; locate 180 0; locate 180 1", -296297, 296296, 0, 0);
    Runs.dueAll(Runs.join(wild, "insert 1; insert 1; insert 1"), "control 3 0; control 3 1; control 3 2",
        -16L * 64000 * 1000, 16L * 64000 * 1000, 16 * UNIT);
  }

  /** A cubic that goes up, down and up again: its blossom at three whole numbers. */
  private static int swing(int a, int b, int c) {
    return 108 * a * b * c - 324 * (a * b + b * c + c * a) + 729 * (a + b + c) - 729;
  }

  private static void controlFartherThanAnyDraft() {
    Runs.sentence("Terms", "All numbers are exact.");
    String run = "begin 3";
    for (int i = 0; i < 19; i++) {
      int x = swing((i + 2) / 3, (i + 1) / 3, i / 3);
      run = Runs.join(run, "point " + x + " " + -x + " 16");
    }
    run = Runs.join(run, States.everyKnot(3), "finish");
    Runs.dueAll(run, "control 1 0; control 9 0; control 17 0", 0, 0, 0);
    Runs.due(run, "thin", 15);
    // The draft's own limit would be 1000.
    Runs.dueAll(Runs.join(run, "thin"), "control 0 0; control 1 0; control 2 0; control 3 0; control 1 1; control 2 1",
        -729 * 16 * UNIT, 3645 * 16 * UNIT, -3645 * 16 * UNIT, 729 * 16 * UNIT, -3645 * 16 * UNIT, 3645 * 16 * UNIT);
    for (int u = 0; u <= 360; u++) {
      long scaled = 108L * u * u * u - 324L * 3 * 60 * u * u + 729L * 3 * 3600 * u - 729L * 216000;
      Runs.dueAll(Runs.join(run, "thin"), "locate " + u + " 0; locate " + u + " 1",
          Math.floorDiv(1000 * scaled, 216000L), Math.floorDiv(-1000 * scaled, 216000L));
    }
    Runs.same(run, Runs.join(run, "thin; insert 1; insert 2; insert 3; insert 4; insert 5; decompose"));
  }

  public static void main(String[] args) {
    degreeOfNoCurve();
    pointsOfNoCurve();
    knotAtOfNoCurve();
    knotAtBeyondTheKnots();
    controlOfNoCurve();
    controlOfNoPoint();
    controlOfNoAxis();
    spanOfNoCurve();
    spanBeyondTheParameters();
    spanAtKnots();
    basisOfNoCurve();
    basisBeyondTheParameters();
    basisOfNoPoint();
    basisAtTheEnds();
    basisWithoutDivisor();
    locateOfNoCurve();
    locateBeyondTheParameters();
    locateOfNoAxis();
    locateRoundsDown();
    locateTheFarthest();
    controlFartherThanAnyDraft();
    Runs.end("ReadBoundaries");
  }
}
