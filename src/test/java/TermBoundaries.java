/** What the section "Terms" says of all calls at once, and how long an object is used. */
public final class TermBoundaries {
  private static final String[] CURVE_CALLS = {"insert 3", "insert 1", "insert 6", "remove 3", "remove 0", "decompose", "thin",
      "elevate", "reverse", "locate 100 1", "locate 361 0", "basis 1 100", "span 100", "control 1 1", "knotAt 3", "degree",
      "points", "tessellate 1 100 5", "tessellate 2 0 0", "vertex 1"};
  private static final String[] DRAFT_CALLS = {"begin 1", "begin 3", "begin 4", "point 1 2 3", "point 1 2 17", "knot 4",
      "knot 1", "knot 6"};

  /** The other tests lean on the probes, so these must see every small difference. */
  private static void probesSeeDifferences() {
    Runs.sentence("Terms", "A call that is refused changes nothing.");
    for (int i = 0; i < States.ALL.length; i++) {
      for (int j = i + 1; j < States.ALL.length; j++) Runs.differ(States.ALL[i], States.ALL[j]);
    }
    String[] more = {"begin 1", "begin 2", "begin 3", "tessellate 0 0 1", "insert 1", "elevate", "reverse"};
    for (String call : more) Runs.differ(States.CURVE, Runs.join(States.CURVE, call));
    Runs.differ("begin 1", "begin 2");
    Runs.differ("begin 2", "begin 3");
    Runs.differ("begin 1", "begin 1; point 0 0 1");
    Runs.differ("begin 1; point 0 0 1", "begin 1; point 1 0 1");
    Runs.differ("begin 1; point 0 0 1", "begin 1; point 0 1 1");
    Runs.differ("begin 1; point 0 0 1", "begin 1; point 0 0 2");
    Runs.differ("begin 3", "begin 3; knot 1");
    Runs.differ("begin 3; knot 1", "begin 3; knot 2");
    Runs.differ("begin 3; knot 2; knot 4", "begin 3; knot 3; knot 4");
    Runs.differ(Runs.join("begin 3", States.points(18)), Runs.join("begin 3", States.points(19)));
    Runs.differ(Runs.join("begin 3", States.everyKnot(3)), Runs.join("begin 3", States.everyKnot(3)).replace("begin 3; knot 1", "begin 3"));
    Runs.differ(States.CUT, Runs.join(States.CURVE, "tessellate 0 500 3"));
  }

  /** Calls on the curve and calls on the draft can change places. */
  private static void curveAndDraftApart() {
    Runs.sentence("Terms", "Calls on the curve do not look at the draft, nor the other way round.");
    for (String state : States.ALL) {
      for (String onCurve : CURVE_CALLS) {
        for (String onDraft : DRAFT_CALLS) swap(state, onCurve, onDraft);
      }
    }
    for (String onCurve : CURVE_CALLS) {
      swap(States.DRAFT, onCurve, "finish");
      swap(States.BESIDE, onCurve, "finish");
      swap(Runs.join(States.CUT, "begin 1; point 1 1 1; point 2 2 2; knot 5"), onCurve, "finish");
    }
  }

  private static void swap(String state, String onCurve, String onDraft) {
    Runs.dueAll(Runs.join(state, onDraft), onCurve, Runs.answers(state, onCurve));
    Runs.dueAll(Runs.join(state, onCurve), onDraft, Runs.answers(state, onDraft));
    Runs.same(Runs.join(state, onCurve, onDraft), Runs.join(state, onDraft, onCurve));
  }

  private static void draftAcrossAllChanges() {
    Runs.sentence("Terms", "A DRAFT has a degree, control points and interior knots");
    String changes = "insert 1; elevate; decompose; reverse; thin; tessellate 1 50 6; remove 1; remove 3";
    String whole = "begin 3; point -1 2 3; point 4 -5 6; point 7 8 9; point -9 8 7; point 6 5 4; knot 2; finish";
    String apart = "begin 3; " + changes + "; point -1 2 3; point 4 -5 6; " + changes + "; point 7 8 9; point -9 8 7; "
        + "point 6 5 4; " + changes + "; knot 2; " + changes + "; finish";
    for (String state : States.ALL) Runs.same(whole, Runs.join(state, apart));
  }

  private static void readingChangesNothing() {
    Runs.sentence("Not promised", "Nothing is promised beyond the answers and state changes described above");
    String[] reads = {"degree", "points", "knotAt 4", "control 2 1", "span 200", "basis 2 200", "basis 0 0", "locate 200 0",
        "locate 200 1", "vertex 0", "vertex 3"};
    for (String state : States.ALL) {
      for (String read : reads) Runs.refused(state, read, Runs.answers(state, read)[0]);
    }
  }

  private static void allRefusedAtOnce() {
    Runs.sentence("Terms", "A call that is refused changes nothing.");
    String refused = "begin 0; begin 4; point 1001 0 1; point 0 -1001 1; point 0 0 0; point 0 0 17; knot 0; knot 6; insert 0; "
        + "insert 6; remove 0; remove 6; knotAt -1; knotAt 23; control -1 0; control 0 3; span -1; span 361; basis -1 0; "
        + "basis 0 361; locate 361 0; locate 0 2; tessellate 2 0 0; tessellate 0 -1 0; tessellate 0 0 7; vertex -1";
    for (String state : States.ALL) {
      Runs.same(state, Runs.join(state, refused));
      Runs.same(state, Runs.join(refused, state));
      Runs.same(state, Runs.join(state, refused, refused));
    }
  }

  private static void fiveHundredAndTwelveCalls() {
    Runs.sentence("What it is", "An object is used for at most 512 calls after it has been made");
    String corners = Runs.join("begin 1", Runs.times(3, "point 0 0 1; point 1000 0 1"), "point 0 0 1", States.everyKnot(1), "finish");
    int made = corners.split(";").length;
    Runs.due(corners, Runs.times(511 - made, "tessellate 1 0 6") + "; vertex 360", 360);
    Runs.due(corners, Runs.times(512 - made, "reverse"), 1);
    Runs.due("", Runs.times(512, "begin 3"), 1);
    Runs.due("", Runs.times(512, "begin 4"), 0);
    String upAndDown = Runs.times(80, "insert 1; decompose; remove 1; remove 1; thin; tessellate 1 0 6");
    long[] round = {1, 1, 1, 1, 0, 64};
    long[] due = new long[481];
    for (int i = 0; i < 480; i++) due[i] = round[i % 6];
    due[480] = 3;
    Runs.dueAll("begin 2; point 1 2 3; point 4 5 16; point 900 -8 9; finish", upAndDown + "; points", due);
    Runs.same(States.CURVE, Runs.join(Runs.times(100, "point 0 0 1"), States.CURVE));
    String restarts = Runs.times(14, States.CURVE);
    Runs.same(States.CURVE, restarts);
  }

  public static void main(String[] args) {
    probesSeeDifferences();
    curveAndDraftApart();
    draftAcrossAllChanges();
    readingChangesNothing();
    allRefusedAtOnce();
    fiveHundredAndTwelveCalls();
    Runs.end("TermBoundaries");
  }
}
