/** The states from which the tests of boundary cases start, told as runs of calls. */
final class States {
  static final String NEW = "";
  /** A draft that is not whole yet. */
  static final String DRAFT = "begin 2; point 5 -6 2; knot 3";
  static final String CURVE =
      "begin 2; point 0 0 1; point 100 200 1; point 300 200 2; point 400 0 1; knot 3; finish";
  /** A curve that was cut into chords. */
  static final String CUT = CURVE + "; tessellate 0 500 4";
  /** A curve with vertices, and beside it a draft of another degree. */
  static final String BESIDE = CUT + "; begin 1; point 7 8 9; knot 4";
  static final String FULL_DRAFT = Runs.join("begin 3", points(19), everyKnot(3));
  static final String SMALLEST = "begin 1; point -1000 1000 16; point 1000 -1000 1; finish";
  static final String GREATEST = Runs.join(FULL_DRAFT, "finish");
  static final String[] ALL = {NEW, DRAFT, CURVE, CUT, BESIDE, FULL_DRAFT, SMALLEST, GREATEST};
  static final String[] WITH_DRAFT = {DRAFT, BESIDE, FULL_DRAFT};
  static final String[] WITHOUT_DRAFT = {NEW, CURVE, CUT, SMALLEST, GREATEST};
  static final String[] WITH_CURVE = {CURVE, CUT, BESIDE, SMALLEST, GREATEST};
  static final String[] WITHOUT_CURVE = {NEW, DRAFT, FULL_DRAFT};

  private States() {
  }

  /** Points of which no two are the same. */
  static String points(int many) {
    String run = "";
    for (int i = 0; i < many; i++) {
      run = Runs.join(run, "point " + (37 * i - 300) + " " + (i % 3 * 90 - i) + " " + (1 + 5 * i % 16));
    }
    return run;
  }

  /** 1 to 5, each as many times. */
  static String everyKnot(int times) {
    String run = "";
    for (int k = 1; k <= 5; k++) run = Runs.join(run, Runs.times(times, "knot " + k));
    return run;
  }
}
