/**
 * A rational spline curve in the plane, kept in exact numbers while knots are put in and taken out,
 * its degree is raised, and it is cut into chords.
 *
 * Every control number is held times UNIT, as a whole number. That is always possible: it is a value
 * of the blossom of one of the curve's polynomials at whole arguments, and comes from the whole
 * numbers of the draft by one division by 1 .. 6 for each degree of the draft, and one by 2 or 3 for
 * each time the degree was raised: at most three, each by a divisor of 60, and UNIT is 60 * 60 * 60.
 */
public final class RefinedSpline {
    public static final long UNIT = 216000L;
    public static final int NONE = -2147483648;

    private static final int TOP_DEGREE = 3;
    private static final int LAST_KNOT = 6;
    private static final int PARTS = 60;
    private static final int LAST_PARAMETER = LAST_KNOT * PARTS;
    private static final int MOST_INNER_KNOTS = TOP_DEGREE * (LAST_KNOT - 1);
    private static final int MOST_POINTS = MOST_INNER_KNOTS + TOP_DEGREE + 1;
    private static final int MOST_KNOTS = MOST_POINTS + TOP_DEGREE + 1;
    private static final int MOST_COORDINATE = 1000;
    private static final int MOST_WEIGHT = 16;
    private static final int MOST_HALVINGS = 6;
    private static final long THOUSANDTHS = 1000L;

    private static final int X = 0;
    private static final int Y = 1;
    private static final int W = 2;
    private static final int AXES = 3;

    private final Draft draft;
    private final Chords chords;
    private Curve curve;
    /** Where the next curve is built, so that a refused change leaves the curve as it was. */
    private Curve spare;

    public RefinedSpline() {
        draft = new Draft();
        chords = new Chords();
        curve = new Curve();
        spare = new Curve();
    }

    public boolean begin(int degree) {
        if (degree < 1 || degree > TOP_DEGREE) {
            return false;
        }
        draft.open(degree);
        return true;
    }

    public boolean point(int x, int y, int w) {
        return draft.addPoint(x, y, w);
    }

    public boolean knot(int k) {
        return draft.addKnot(k);
    }

    public int finish() {
        int fault = draft.fault();
        if (fault == 0) {
            draft.copyTo(curve);
            draft.close();
            chords.forget();
        }
        return fault;
    }

    public int insert(int k) {
        int times = curve.timesOf(k);
        if (!curve.exists() || !isInner(k) || times >= curve.degree) {
            return -1;
        }
        putIn(k);
        return times + 1;
    }

    public boolean remove(int k) {
        return curve.timesOf(k) > 0 && takeOut(k);
    }

    public int decompose() {
        if (!curve.exists()) {
            return -1;
        }
        int added = 0;
        for (int k = 1; k < LAST_KNOT; k++) {
            for (int times = curve.timesOf(k); times > 0 && times < curve.degree; times++) {
                putIn(k);
                added++;
            }
        }
        return added;
    }

    public int thin() {
        if (!curve.exists()) {
            return -1;
        }
        int taken = 0;
        for (int k = LAST_KNOT - 1; k > 0; k--) {
            for (int times = curve.timesOf(k); times > 0 && takeOut(k); times--) {
                taken++;
            }
        }
        return taken;
    }

    public boolean elevate() {
        if (!curve.exists() || curve.degree >= TOP_DEGREE) {
            return false;
        }
        curve.raiseInto(spare);
        takeSpare();
        return true;
    }

    public boolean reverse() {
        if (!curve.exists()) {
            return false;
        }
        curve.turnInto(spare);
        takeSpare();
        return true;
    }

    public int degree() {
        return curve.degree;
    }

    public int points() {
        return curve.count;
    }

    public int knotAt(int i) {
        if (!curve.exists() || i < 0 || i >= curve.knotCount()) {
            return -1;
        }
        return curve.knots[i];
    }

    public long control(int i, int axis) {
        if (axis < 0 || axis >= AXES) {
            return 0L;
        }
        return curve.number(axis, i);
    }

    public int span(int u) {
        if (!curve.exists() || !isParameter(u)) {
            return -1;
        }
        return curve.spanOf(u);
    }

    public long basis(int i, int u) {
        if (!curve.exists() || !isParameter(u) || i < 0 || i >= curve.count) {
            return -1L;
        }
        return curve.basisOf(i, u);
    }

    public int locate(int u, int axis) {
        if (!curve.exists() || !isParameter(u) || (axis != X && axis != Y)) {
            return NONE;
        }
        curve.goTo(u);
        return axis == X ? curve.across : curve.up;
    }

    public int tessellate(int how, int tolerance, int depth) {
        if (!curve.exists() || (how != 0 && how != 1) || tolerance < 0) {
            return -1;
        }
        if (depth < 0 || depth > MOST_HALVINGS) {
            return -1;
        }
        return chords.cutAll(curve, how, tolerance, depth);
    }

    public int vertex(int i) {
        if (i < 0 || i >= chords.size) {
            return -1;
        }
        return chords.vertices[i];
    }

    private static boolean isInner(int k) {
        return k > 0 && k < LAST_KNOT;
    }

    private static boolean isParameter(int u) {
        return u >= 0 && u <= LAST_PARAMETER;
    }

    private void putIn(int k) {
        curve.refineInto(spare, k);
        takeSpare();
    }

    private boolean takeOut(int k) {
        curve.coarsenInto(spare, k);
        if (!spare.weightsArePositive() || !spare.refinesTo(curve, k)) {
            return false;
        }
        takeSpare();
        return true;
    }

    private void takeSpare() {
        Curve old = curve;
        curve = spare;
        spare = old;
    }

    /** A curve in the making; there is none while the degree is 0. */
    private static final class Draft {
        private int degree;
        private int count;
        private int innerCount;
        private final int[] xs = new int[MOST_POINTS];
        private final int[] ys = new int[MOST_POINTS];
        private final int[] weights = new int[MOST_POINTS];
        private final int[] inner = new int[MOST_INNER_KNOTS];

        void open(int newDegree) {
            degree = newDegree;
            count = 0;
            innerCount = 0;
        }

        void close() {
            degree = 0;
        }

        boolean addPoint(int x, int y, int w) {
            if (degree == 0 || count >= MOST_POINTS || !isCoordinate(x) || !isCoordinate(y)) {
                return false;
            }
            if (w < 1 || w > MOST_WEIGHT) {
                return false;
            }
            xs[count] = x;
            ys[count] = y;
            weights[count] = w;
            count++;
            return true;
        }

        boolean addKnot(int k) {
            if (degree == 0 || !isInner(k) || innerCount >= MOST_INNER_KNOTS) {
                return false;
            }
            if (innerCount > 0 && k < inner[innerCount - 1]) {
                return false;
            }
            // The knots ascend, so k is there degree times when it stands degree places back.
            if (innerCount >= degree && inner[innerCount - degree] == k) {
                return false;
            }
            inner[innerCount] = k;
            innerCount++;
            return true;
        }

        /** What finish answers: 0 when the draft can become a curve. */
        int fault() {
            if (degree == 0) {
                return 1;
            }
            if (count < degree + 1) {
                return 2;
            }
            return innerCount == count - degree - 1 ? 0 : 3;
        }

        void copyTo(Curve curve) {
            curve.degree = degree;
            curve.count = count;
            for (int i = 0; i <= degree; i++) {
                curve.knots[i] = 0;
                curve.knots[count + i] = LAST_KNOT;
            }
            for (int i = 0; i < innerCount; i++) {
                curve.knots[degree + 1 + i] = inner[i];
            }
            for (int i = 0; i < count; i++) {
                long weight = UNIT * weights[i];
                curve.rows[X][i] = xs[i] * weight;
                curve.rows[Y][i] = ys[i] * weight;
                curve.rows[W][i] = weight;
            }
        }

        private static boolean isCoordinate(int x) {
            return x >= -MOST_COORDINATE && x <= MOST_COORDINATE;
        }
    }

    /** Degree, knots and control points; there is no curve while the degree is 0. */
    private static final class Curve {
        private int degree;
        private int count;
        private final int[] knots = new int[MOST_KNOTS];
        /** For each axis, the control numbers times UNIT. */
        private final long[][] rows = new long[AXES][MOST_POINTS];
        /** The coordinates of the point of the latest goTo, in thousandths. */
        private int across;
        private int up;
        private final int[] arguments = new int[TOP_DEGREE];
        private final long[] work = new long[TOP_DEGREE + 1];

        boolean exists() {
            return degree > 0;
        }

        int knotCount() {
            return count + degree + 1;
        }

        int timesOf(int k) {
            int times = 0;
            for (int i = degree + 1; i < count; i++) {
                if (knots[i] == k) {
                    times++;
                }
            }
            return times;
        }

        int spanOf(int u) {
            int found = degree;
            for (int r = degree + 1; r < count; r++) {
                if (PARTS * knots[r] <= u) {
                    found = r;
                }
            }
            return found;
        }

        long number(int axis, int i) {
            return i < 0 || i >= count ? 0L : rows[axis][i];
        }

        boolean weightsArePositive() {
            for (int i = 0; i < count; i++) {
                if (rows[W][i] <= 0) {
                    return false;
                }
            }
            return true;
        }

        /** How much control point i of this curve counts in point i of the curve with k put in. */
        private int shareOfSame(int i, int k) {
            return Math.max(0, k - knots[i]);
        }

        /** How much control point i - 1 of this curve counts in the same point. */
        private int shareOfPrevious(int i, int k) {
            return Math.max(0, knots[i + degree] - k);
        }

        /** Point i of the curve with k put in, times the sum of the two shares. */
        private long blended(int axis, int i, int k) {
            return shareOfSame(i, k) * number(axis, i)
                + shareOfPrevious(i, k) * number(axis, i - 1);
        }

        void refineInto(Curve finer, int k) {
            finer.degree = degree;
            finer.count = count + 1;
            int place = spanOf(PARTS * k) + 1;
            System.arraycopy(knots, 0, finer.knots, 0, place);
            finer.knots[place] = k;
            System.arraycopy(knots, place, finer.knots, place + 1, knotCount() - place);
            for (int i = 0; i < finer.count; i++) {
                int shares = shareOfSame(i, k) + shareOfPrevious(i, k);
                for (int axis = 0; axis < AXES; axis++) {
                    finer.rows[axis][i] = quotient(blended(axis, i, k), shares);
                }
            }
        }

        /** Whether this curve with k put in has the control points of the finer one. */
        boolean refinesTo(Curve finer, int k) {
            for (int i = 0; i < finer.count; i++) {
                int shares = shareOfSame(i, k) + shareOfPrevious(i, k);
                for (int axis = 0; axis < AXES; axis++) {
                    // Without a division, so that no rounding hides a difference.
                    if (shares * finer.number(axis, i) != blended(axis, i, k)) {
                        return false;
                    }
                }
            }
            return true;
        }

        /** Makes the only curve with one k fewer that can have this curve's shape. */
        void coarsenInto(Curve coarser, int k) {
            coarser.degree = degree;
            coarser.count = count - 1;
            int place = spanOf(PARTS * k);
            System.arraycopy(knots, 0, coarser.knots, 0, place);
            System.arraycopy(knots, place + 1, coarser.knots, place, knotCount() - place - 1);
            for (int i = 0; i < coarser.count; i++) {
                for (int axis = 0; axis < AXES; axis++) {
                    coarser.rows[axis][i] = coarser.unblended(this, axis, i, k);
                }
            }
        }

        /** Control point i of this curve, from the finer one and this curve's point i - 1. */
        private long unblended(Curve finer, int axis, int i, int k) {
            int same = shareOfSame(i, k);
            if (same == 0) {
                return finer.number(axis, i + 1);
            }
            int previous = shareOfPrevious(i, k);
            return quotient((same + previous) * finer.number(axis, i)
                - previous * number(axis, i - 1), same);
        }

        void raiseInto(Curve higher) {
            int filled = 0;
            for (int i = 0; i < knotCount(); i++) {
                higher.knots[filled++] = knots[i];
                if (i + 1 == knotCount() || knots[i] < knots[i + 1]) {
                    higher.knots[filled++] = knots[i];
                }
            }
            higher.degree = degree + 1;
            higher.count = filled - higher.degree - 1;
            for (int i = 0; i < higher.count; i++) {
                for (int axis = 0; axis < AXES; axis++) {
                    higher.rows[axis][i] = raised(higher, axis, i);
                }
            }
        }

        /**
         * Control point i of the curve of a higher degree: its blossom at the knots i + 1 ..
         * i + its degree is the mean of this curve's blossoms at these knots less one.
         */
        private long raised(Curve higher, int axis, int i) {
            int r = spanOf(PARTS * higher.knots[i]);
            long sum = 0;
            for (int left = 1; left <= higher.degree; left++) {
                int filled = 0;
                for (int j = 1; j <= higher.degree; j++) {
                    if (j != left) {
                        arguments[filled++] = PARTS * higher.knots[i + j];
                    }
                }
                sum += blossom(axis, r);
            }
            long scale = higher.degree;
            for (int q = 0; q < degree; q++) {
                scale *= PARTS;
            }
            return quotient(sum, scale);
        }

        void turnInto(Curve turned) {
            turned.degree = degree;
            turned.count = count;
            for (int i = 0; i < knotCount(); i++) {
                turned.knots[i] = LAST_KNOT - knots[knotCount() - 1 - i];
            }
            for (int axis = 0; axis < AXES; axis++) {
                for (int i = 0; i < count; i++) {
                    turned.rows[axis][i] = rows[axis][count - 1 - i];
                }
            }
        }

        /** B(i, degree) at u, times UNIT and 60 to the power of the degree. */
        long basisOf(int i, int u) {
            int r = spanOf(u);
            for (int j = 0; j <= degree; j++) {
                work[j] = i + j == r ? 1L : 0L;
            }
            for (int q = 1; q <= degree; q++) {
                for (int j = 0; j <= degree - q; j++) {
                    int low = i + j;
                    int high = low + q + 1;
                    work[j] = factor(u - PARTS * knots[low], knots[low + q] - knots[low]) * work[j]
                        + factor(PARTS * knots[high] - u, knots[high] - knots[low + 1]) * work[j + 1];
                }
            }
            // Each level above was times 60 * 60; UNIT is 60 * 60 * 60.
            long value = work[0];
            for (int q = degree; q < TOP_DEGREE; q++) {
                value *= PARTS;
            }
            return value;
        }

        /** A distance in sixtieths over a gap of 1 .. 6 knots, times 60 * 60: whole, as 60 / gap is. */
        private static long factor(int distance, int gap) {
            return gap == 0 ? 0L : (long) distance * (PARTS / gap);
        }

        void goTo(int u) {
            int r = spanOf(u);
            for (int q = 0; q < degree; q++) {
                arguments[q] = u;
            }
            long weight = blossom(W, r);
            across = thousandths(blossom(X, r), weight);
            up = thousandths(blossom(Y, r), weight);
        }

        private static int thousandths(long number, long weight) {
            return weight == 0 ? 0 : (int) Math.floorDiv(THOUSANDTHS * number, weight);
        }

        /**
         * The blossom of the polynomial of span r at the arguments (in sixtieths), times UNIT and
         * 60 to the power of the degree. Every division on the way is without remainder: times UNIT
         * the blossom is whole at whole arguments, and each argument between costs a factor 60.
         */
        private long blossom(int axis, int r) {
            for (int j = 0; j <= degree; j++) {
                work[j] = number(axis, r - degree + j);
            }
            for (int level = 1; level <= degree; level++) {
                int u = arguments[level - 1];
                for (int j = degree; j >= level; j--) {
                    int low = knots[r - degree + j];
                    int high = knots[r + j + 1 - level];
                    work[j] = quotient((u - PARTS * low) * work[j]
                        + (PARTS * high - u) * work[j - 1], high - low);
                }
            }
            return work[degree];
        }

        private static long quotient(long number, long divisor) {
            return divisor == 0 ? 0L : number / divisor;
        }
    }

    /** The vertices of the latest tessellation; there are none while the size is 0. */
    private static final class Chords {
        private int size;
        private int how;
        private int tolerance;
        private final int[] vertices = new int[LAST_PARAMETER + 1];
        /** The coordinates at each parameter at which the curve was cut, in thousandths. */
        private final int[] across = new int[LAST_PARAMETER + 1];
        private final int[] up = new int[LAST_PARAMETER + 1];

        void forget() {
            size = 0;
        }

        int cutAll(Curve curve, int newHow, int newTolerance, int depth) {
            how = newHow;
            tolerance = newTolerance;
            size = 0;
            addVertex(0);
            look(curve, 0);
            for (int i = curve.degree; i < curve.count; i++) {
                int a = PARTS * curve.knots[i];
                int b = PARTS * curve.knots[i + 1];
                if (a < b) {
                    look(curve, b);
                    cut(curve, a, b, depth);
                }
            }
            return size - 1;
        }

        private void cut(Curve curve, int a, int b, int halvings) {
            if (halvings <= 0 || b - a < 2) {
                addVertex(b);
                return;
            }
            int m = (a + b) / 2;
            look(curve, m);
            if (isStraight(across[a], across[m], across[b]) && isStraight(up[a], up[m], up[b])) {
                addVertex(b);
                return;
            }
            cut(curve, a, m, halvings - 1);
            cut(curve, m, b, halvings - 1);
        }

        private boolean isStraight(int atA, int atM, int atB) {
            int bend = how == 0 ? atA + atB - 2 * atM : atA - atB;
            return Math.abs(bend) <= tolerance;
        }

        private void look(Curve curve, int u) {
            curve.goTo(u);
            across[u] = curve.across;
            up[u] = curve.up;
        }

        private void addVertex(int u) {
            if (size < vertices.length) {
                vertices[size] = u;
                size++;
            }
        }
    }
}
