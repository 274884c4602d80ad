/** The boundary cases of promises 19 and 20, a test for each sentence that names one. */
public final class ChordBoundaries {
  private static final String PARABOLA = "begin 2; point 0 0 1; point 4 8 1; point 8 0 1; finish";
  /** Y is the cube of the parameter, X is always 0. */
  private static final String CUBE = "begin 3; point 0 0 1; point 0 0 1; point 0 0 1; point 0 216 1; finish";
  /** Corners at all knots; no stretch is level, so that how = 1 with tolerance 0 cuts all it may. */
  private static final String ZIGZAG = "begin 1; point 0 0 1; point 60 0 1; point 0 0 1; point 60 0 1; point 0 0 1; "
      + "point 60 0 1; point 0 0 1; " + States.everyKnot(1) + "; finish";

  private static void dueVertices(String state, int... wants) {
    long[] due = new long[wants.length + 2];
    due[0] = -1;
    for (int i = 0; i < wants.length; i++) due[i + 1] = wants[i];
    due[wants.length + 1] = -1;
    Runs.dueAll(state, Runs.vertices(-1, wants.length), due);
  }

  // Promise 19

  private static void piecesFromKnotToKnot() {
    Runs.sentence("Promise 19", "Every stretch from a knot to the next greater knot is a piece");
    Runs.due(States.SMALLEST, "tessellate 1 0 0", 1);
    dueVertices(Runs.join(States.SMALLEST, "tessellate 1 0 0"), 0, 360);
    Runs.due(States.GREATEST, "tessellate 1 0 0", 6);
    dueVertices(Runs.join(States.GREATEST, "tessellate 1 0 0"), 0, 60, 120, 180, 240, 300, 360);
    for (int k = 1; k <= 5; k++) {
      for (int times = 1; times <= 2; times++) {
        String state = Runs.join(PARABOLA, Runs.times(times, "insert " + k), "tessellate 0 0 0");
        dueVertices(state, 0, 60 * k, 360);
      }
    }
  }

  private static void noHalvingsAllowed() {
    Runs.sentence("Promise 19", "A piece with 0 halvings allowed is a chord");
    Runs.due(PARABOLA, "tessellate 0 0 0; tessellate 1 0 0", 1);
    Runs.due(ZIGZAG, "tessellate 0 0 0; tessellate 1 0 0", 6);
    for (int depth = 0; depth <= 6; depth++) {
      Runs.due(States.SMALLEST, "tessellate 1 0 " + depth, 1L << depth);
      Runs.due(Runs.join(States.SMALLEST, "insert 2"), "tessellate 1 0 " + depth, 2L << depth);
    }
  }

  private static void shorterThanTwo() {
    Runs.sentence("Promise 19", "it is a chord too when b - a < 2");
    Runs.due(ZIGZAG, "tessellate 1 0 6", 360);
    int[] all = new int[361];
    for (int i = 0; i <= 360; i++) all[i] = i;
    dueVertices(Runs.join(ZIGZAG, "tessellate 1 0 6"), all);
    // 60 is halved to 30, 15, 7 and 8, then 3, 4, 4, 4, then 1 and seven times 2.
    Runs.due(ZIGZAG, "tessellate 1 0 5", 192);
    Runs.dueAll(Runs.join(ZIGZAG, "tessellate 1 0 5"), Runs.vertices(0, 10), 0, 1, 3, 5, 7, 9, 11, 13, 15, 16, 18);
    Runs.due(Runs.join(States.SMALLEST, "insert 1"), "tessellate 1 0 6", 60 + 64);
    Runs.dueAll(Runs.join(States.SMALLEST, "insert 1; tessellate 1 0 6"), "vertex 59; vertex 60; vertex 61; vertex 124",
        59, 60, 64, 360);
  }

  private static void cutRoundedDown() {
    Runs.sentence("Promise 19", "otherwise it is cut at (a + b) / 2, rounded down");
    String state = Runs.join(States.SMALLEST, "tessellate 1 0 6");
    Runs.dueAll(state, Runs.vertices(0, 9), 0, 5, 11, 16, 22, 27, 33, 39, 45, 50);
    Runs.dueAll(state, Runs.vertices(62, 65), 348, 354, 360, -1);
    dueVertices(Runs.join(States.SMALLEST, "tessellate 1 0 4"),
        0, 22, 45, 67, 90, 112, 135, 157, 180, 202, 225, 247, 270, 292, 315, 337, 360);
  }

  private static void eachHalfForItself() {
    Runs.sentence("Promise 19", "each half is such a piece with one halving fewer allowed, the first half first");
    // From m - h to m + h the cube bends by 6 * m * h * h: 162 in all, 20.25 and 60.75 in the halves.
    Runs.due(CUBE, "tessellate 0 162000 6", 1);
    Runs.due(CUBE, "tessellate 0 161999 6; tessellate 0 60750 6", 2);
    Runs.due(CUBE, "tessellate 0 60749 6; tessellate 0 20250 6", 3);
    dueVertices(Runs.join(CUBE, "tessellate 0 20250 6"), 0, 180, 270, 360);
    dueVertices(Runs.join(CUBE, "reverse; tessellate 0 20250 6"), 0, 90, 180, 360);
    dueVertices(Runs.join(CUBE, "tessellate 0 20249 6"), 0, 90, 180, 270, 360);
    Runs.due(CUBE, "tessellate 0 20249 1", 2);
  }

  private static void straightForBend() {
    Runs.sentence("Promise 19", "for how = 0, when both coordinates have |at a + at b - 2 * at m| <= tolerance");
    String[] bends = {"0 8", "0 -8", "8 0", "-8 0", "8 8", "-8 8", "8 -8", "8 5", "-2 -8"};
    for (String middle : bends) {
      String bow = "begin 2; point 0 0 1; point " + middle + " 1; point 0 0 1; finish";
      Runs.due(bow, "tessellate 0 8000 6; tessellate 0 8001 6", 1);
      Runs.due(bow, "tessellate 0 7999 6; tessellate 0 2000 6; tessellate 0 0 1", 2);
      Runs.due(bow, "tessellate 0 1999 6", 4);
    }
    String level = "begin 2; point 4 4 1; point 4 4 1; point 4 4 1; finish";
    Runs.due(level, "tessellate 0 0 6; tessellate 1 0 6", 1);
  }

  private static void straightForLength() {
    Runs.sentence("Promise 19", "for how = 1, when both have |at a - at b| <= tolerance");
    String[][] ends = {{"0 0", "6 0"}, {"6 0", "0 0"}, {"0 0", "0 6"}, {"0 6", "0 0"}, {"-3 3", "3 -3"}, {"-3 1", "3 2"},
        {"2 3", "1 -3"}};
    for (String[] both : ends) {
      String line = "begin 1; point " + both[0] + " 1; point " + both[1] + " 1; finish";
      Runs.due(line, "tessellate 1 6000 6; tessellate 1 6001 6", 1);
      Runs.due(line, "tessellate 1 5999 6; tessellate 1 3000 6; tessellate 1 0 1", 2);
      Runs.due(line, "tessellate 1 2999 6; tessellate 1 1500 6", 4);
      Runs.due(line, "tessellate 0 0 0", 1);
    }
    // Its ends are one spot: with how = 1 that is straight however far it goes between.
    Runs.due("begin 2; point 1 1 1; point 9 9 1; point 1 1 1; finish", "tessellate 1 0 6", 1);
  }

  private static void coordinatesAsLocateTellsThem() {
    Runs.sentence("Promise 19", "with the coordinates as locate tells them");
    // 0 + 833 - 2 * 416 and 833 + 1000 - 2 * 916 are 1, though the line does not bend at all.
    String line = "begin 1; point 0 0 1; point 1 0 1; finish; insert 5";
    Runs.dueAll(line, "locate 150 0; locate 300 0; locate 330 0", 416, 833, 916);
    Runs.dueAll(line, "tessellate 0 0 1; tessellate 0 1 1", 4, 2);
    // 0 - -834 is 834 with the ordinate rounded down, 833 with the abscissa.
    String turned = "begin 1; point 0 0 1; point 0 -1 1; finish; insert 5";
    Runs.dueAll(turned, "tessellate 1 833 1; tessellate 1 834 1", 3, 2);
    Runs.dueAll(line, "tessellate 1 832 1; tessellate 1 833 1", 3, 2);
  }

  private static void toleranceLeastAndMost() {
    Runs.sentence("Promise 19", "tolerance is less than 0");
    for (String state : new String[] {States.CURVE, States.CUT, States.BESIDE, States.GREATEST}) {
      for (int tolerance : new int[] {-1, -1000, Runs.LEAST}) {
        Runs.refused(state, "tessellate 0 " + tolerance + " 3", -1);
        Runs.refused(state, "tessellate 1 " + tolerance + " 3", -1);
        Runs.refused(state, "tessellate 0 " + tolerance + " 0", -1);
      }
    }
    Runs.due(States.SMALLEST, "tessellate 0 " + Runs.MOST + " 6; tessellate 1 " + Runs.MOST + " 6", 1);
    Runs.due(States.SMALLEST, "tessellate 1 2000000 6", 1);
    Runs.due(States.SMALLEST, "tessellate 1 0 1; tessellate 1 1999999 1", 2);
  }

  private static void tessellateWithoutCurve() {
    Runs.sentence("Promise 19", "-1, changing nothing, when there is no curve");
    for (String state : States.WITHOUT_CURVE) {
      Runs.refused(state, "tessellate 0 0 0", -1);
      Runs.refused(state, "tessellate 1 100 6", -1);
    }
  }

  private static void howOtherThanTwoWays() {
    Runs.sentence("Promise 19", "how is not 0 or 1");
    for (String state : States.WITH_CURVE) {
      for (int how : new int[] {Runs.LEAST, -1, 2, 3, Runs.MOST}) Runs.refused(state, "tessellate " + how + " 10 2", -1);
    }
  }

  private static void depthTooSmallOrTooLarge() {
    Runs.sentence("Promise 19", "or depth is not 0 .. 6");
    for (String state : States.WITH_CURVE) {
      for (int depth : new int[] {Runs.LEAST, -1, 7, 8, 32, Runs.MOST}) Runs.refused(state, "tessellate 0 10 " + depth, -1);
    }
    Runs.due(States.SMALLEST, "tessellate 1 0 0", 1);
    Runs.due(States.SMALLEST, "tessellate 1 0 6", 64);
  }

  private static void onlyTheVerticesChange() {
    Runs.sentence("Promise 19", "The vertices become 0 and the ends b of all chords, in order.");
    String[] orders = {"tessellate 0 500 4; begin 1; point 7 8 9; knot 4", "begin 1; tessellate 0 500 4; point 7 8 9; knot 4",
        "begin 1; point 7 8 9; knot 4; tessellate 0 500 4", "begin 1; tessellate 1 0 6; point 7 8 9; knot 4; tessellate 0 500 4"};
    for (String order : orders) Runs.same(States.BESIDE, Runs.join(States.CURVE, order));
    Runs.same(Runs.join(ZIGZAG, "tessellate 1 0 0"), Runs.join(ZIGZAG, "tessellate 1 0 6; tessellate 1 0 0"));
    for (String state : States.WITH_CURVE) {
      String read = Runs.numbers();
      Runs.dueAll(Runs.join(state, "tessellate 1 0 6"), read, Runs.answers(state, read));
    }
  }

  // Promise 20

  private static void noSuchVertex() {
    Runs.sentence("Promise 20", "-1 when there is no such vertex");
    for (String state : new String[] {States.CUT, States.BESIDE, Runs.join(ZIGZAG, "tessellate 1 0 6")}) {
      for (int i : new int[] {Runs.LEAST, -2, -1, 361, 362, Runs.MOST}) Runs.refused(state, "vertex " + i, -1);
      Runs.refused(state, "vertex 0", 0);
    }
    Runs.refused(Runs.join(States.SMALLEST, "tessellate 0 0 0"), "vertex 2", -1);
    Runs.refused(Runs.join(States.SMALLEST, "tessellate 0 0 0"), "vertex 1", 360);
    Runs.refused(Runs.join(ZIGZAG, "tessellate 1 0 6"), "vertex 360", 360);
  }

  private static void theLatestThatWasNotRefused() {
    Runs.sentence("Promise 20", "of the latest tessellate that was not refused");
    String many = Runs.join(ZIGZAG, "tessellate 1 0 6");
    dueVertices(Runs.join(many, "tessellate 1 " + Runs.MOST + " 6"), 0, 60, 120, 180, 240, 300, 360);
    dueVertices(Runs.join(many, "elevate; thin; tessellate 1 " + Runs.MOST + " 6"), 0, 60, 120, 180, 240, 300, 360);
    String few = Runs.join(States.SMALLEST, "tessellate 1 0 1");
    for (String call : new String[] {"tessellate 2 0 0", "tessellate 0 -1 0", "tessellate 0 0 7", "tessellate 0 0 -1"}) {
      dueVertices(Runs.join(few, call), 0, 180, 360);
    }
    dueVertices(Runs.join(few, "tessellate 1 0 2; tessellate 0 0 7; tessellate 0 -1 0"), 0, 90, 180, 270, 360);
  }

  private static void noneBeforeTessellate() {
    Runs.sentence("Promise 20", "or none was made since the latest finish that answered 0");
    for (String state : new String[] {States.NEW, States.DRAFT, States.CURVE, States.SMALLEST, States.GREATEST,
        Runs.join(States.CUT, States.CURVE), Runs.join(ZIGZAG, "tessellate 1 0 6", States.SMALLEST)}) {
      Runs.due(state, Runs.vertices(-1, 361), -1);
      Runs.due(Runs.join(state, "tessellate 2 0 0"), Runs.vertices(0, 9), -1);
    }
    String cut = Runs.join(States.SMALLEST, "tessellate 1 0 1");
    dueVertices(Runs.join(cut, "finish"), 0, 180, 360);
    dueVertices(Runs.join(cut, "begin 1; point 0 0 1; finish"), 0, 180, 360);
    dueVertices(Runs.join(cut, "begin 1; point 0 0 1; point 1 1 1; knot 3; finish"), 0, 180, 360);
    Runs.due(Runs.join(cut, "begin 1; point 0 0 1; point 1 1 1; finish"), Runs.vertices(0, 9), -1);
    dueVertices(Runs.join(cut, "begin 1; point 0 0 1; point 1 1 1; finish; tessellate 0 0 0"), 0, 360);
  }

  private static void changesLeaveTheVertices() {
    Runs.sentence("Promise 20", "Vertex i (from 0 on), in sixtieths, of the latest tessellate");
    String cut = Runs.join(PARABOLA, "insert 2; tessellate 0 0 1");
    for (String change : new String[] {"insert 1", "insert 2", "remove 2", "decompose", "thin", "elevate", "reverse",
        "insert 1; elevate; reverse; decompose; thin"}) {
      dueVertices(Runs.join(cut, change), 0, 60, 120, 240, 360);
    }
  }

  public static void main(String[] args) {
    piecesFromKnotToKnot();
    noHalvingsAllowed();
    shorterThanTwo();
    cutRoundedDown();
    eachHalfForItself();
    straightForBend();
    straightForLength();
    coordinatesAsLocateTellsThem();
    toleranceLeastAndMost();
    tessellateWithoutCurve();
    howOtherThanTwoWays();
    depthTooSmallOrTooLarge();
    onlyTheVerticesChange();
    noSuchVertex();
    theLatestThatWasNotRefused();
    noneBeforeTessellate();
    changesLeaveTheVertices();
    Runs.end("ChordBoundaries");
  }
}
