import java.util.NoSuchElementException;

/** Functions of one number and shadings that are coloured by them, or by triangles: see README.md. */
public final class ShadeRows {
    private static final int MOST_FUNCTIONS = 24;
    private static final int MOST_STEPS = 24;
    private static final int MOST_SHADINGS = 24;
    private static final int MOST_SAMPLES = 16;
    private static final int MOST_TIMES = 12;
    private static final int MOST_STACKED = 8;
    private static final int MOST_VERTICES = 60;
    private static final int MOST_COLUMNS = 8;
    private static final int MOST_CUTS = 6;
    private static final int PATCH_POINTS = 12;
    private static final int PATCH_CORNERS = 4;
    private static final int BANDS = 3;
    private static final int GOOD_LIMIT = 1000000;
    private static final int PLACE_LIMIT = 10000;
    private static final int NOT_PAINTED = -1;

    private static final int SAMPLED = 0;
    private static final int POWER = 1;
    private static final int STITCHED = 2;
    private static final int TEXT = 3;

    private static final int PLANE = 1;
    private static final int LINE = 2;
    private static final int CIRCLES = 3;
    private static final int FREE = 4;
    private static final int LATTICE = 5;
    private static final int PATCH = 6;

    private static final int ERROR_POWER = 2;
    private static final int ERROR_DIVISOR = 3;
    private static final int ERROR_ROOT = 4;
    private static final int ERROR_RANGE = 5;

    /** How many numbers a step of a text takes from the stack, and how many more there are behind it. */
    private static final int[] STEP_TAKES = {0, 2, 2, 2, 2, 1, 1, 1, 2, 1, 2, 3, 1, 1};
    private static final int[] STEP_ADDS = {1, -1, -1, -1, -1, 0, 0, 1, 0, -1, -1, -2, 0, 0};

    private final Curve[] curves = new Curve[MOST_FUNCTIONS];
    private int curveCount;
    private final int[] stepOps = new int[MOST_STEPS];
    private final double[] stepNumbers = new double[MOST_STEPS];
    private int stepCount;
    private final Shade[] shades = new Shade[MOST_SHADINGS];
    private int shadeCount;
    private final Stack stack = new Stack();
    private final Corners corners = new Corners();
    private int latestError;

    public ShadeRows() {
    }

    public int text(int op, double v) {
        if (op < 0 || op >= STEP_TAKES.length || !isGood(v)) {
            return 0;
        }
        if (stepCount < 0 || stepCount >= stepOps.length || stepCount >= stepNumbers.length) {
            return 0;
        }
        stepOps[stepCount] = op;
        stepNumbers[stepCount] = v;
        stepCount++;
        return stepCount;
    }

    public int function(int kind, double a, double b, double c, double d) {
        boolean room = curveCount >= 0 && curveCount < curves.length;
        Curve made = room ? curveOf(kind, a, b, c) : null;
        if (kind == TEXT) {
            stepCount = 0;
        }
        if (made == null) {
            return 0;
        }
        curves[curveCount] = made;
        curveCount++;
        return curveCount;
    }

    public int sample(int function, int i, int v) throws NoSuchElementException, ArrayIndexOutOfBoundsException {
        Curve curve = curveAt(function);
        if (!(curve instanceof Sampled)) {
            throw new NoSuchElementException("no such sampled function");
        }
        Sampled sampled = (Sampled) curve;
        if (!sampled.has(i)) {
            throw new ArrayIndexOutOfBoundsException("no such sample");
        }
        return sampled.exchange(i, v & 255);
    }

    public double value(int function, double t) throws NoSuchElementException, IllegalArgumentException {
        Curve curve = curveAt(function);
        if (curve == null) {
            throw new NoSuchElementException("no such function");
        }
        if (!isGood(t)) {
            throw new IllegalArgumentException("t is not good");
        }
        stack.begin();
        double answer = curve.at(t, stack);
        latestError = stack.firstError;
        return answer;
    }

    public int error() {
        return latestError;
    }

    public int shading(int kind, double a, double b, double c, double d, double e, double f) {
        if (shadeCount < 0 || shadeCount >= shades.length) {
            return 0;
        }
        Shade made = kind <= CIRCLES ? rampOf(kind, a, b, c, d, e, f) : meshOf(kind, a);
        if (made == null) {
            return 0;
        }
        shades[shadeCount] = made;
        shadeCount++;
        return shadeCount;
    }

    public int vertex(int shading, double x, double y, int colour) throws NoSuchElementException {
        Shade shade = shadeAt(shading);
        if (shade == null) {
            throw new NoSuchElementException("no such shading");
        }
        return isGood(x) && isGood(y) ? shade.addVertex(x, y, colour) : 0;
    }

    public int patch(int shading, int i, double x, double y)
            throws NoSuchElementException, ArrayIndexOutOfBoundsException {
        Shade shade = shadeAt(shading);
        if (shade == null) {
            throw new NoSuchElementException("no such shading");
        }
        if (i < 0 || i >= PATCH_POINTS) {
            throw new ArrayIndexOutOfBoundsException("no such point of a patch");
        }
        return isGood(x) && isGood(y) ? shade.movePoint(i, x, y) : 0;
    }

    public int extend(int shading, boolean begins, boolean ends) throws NoSuchElementException {
        Shade shade = shadeAt(shading);
        if (shade == null) {
            throw new NoSuchElementException("no such shading");
        }
        return shade.extendTo(begins, ends);
    }

    public int pieces(int shading) throws NoSuchElementException {
        Shade shade = shadeAt(shading);
        if (shade == null) {
            throw new NoSuchElementException("no such shading");
        }
        return shade.triangles();
    }

    public int point(int shading, int x, int y, int band)
            throws NoSuchElementException, ArrayIndexOutOfBoundsException, IllegalArgumentException {
        Shade shade = shadeAt(shading);
        if (shade == null) {
            throw new NoSuchElementException("no such shading");
        }
        if (band < 0 || band >= BANDS) {
            throw new ArrayIndexOutOfBoundsException("no such band");
        }
        if (x < -PLACE_LIMIT || x > PLACE_LIMIT || y < -PLACE_LIMIT || y > PLACE_LIMIT) {
            throw new IllegalArgumentException("the point is too far away");
        }
        return shade.bandAt(x + 0.5, y + 0.5, band, stack, corners);
    }

    private Curve curveAt(int number) {
        if (number < 1 || number > curveCount || number > curves.length) {
            return null;
        }
        return curves[number - 1];
    }

    private Shade shadeAt(int number) {
        if (number < 1 || number > shadeCount || number > shades.length) {
            return null;
        }
        return shades[number - 1];
    }

    /** A new function, or null where a number is not as its kind wants it. */
    private Curve curveOf(int kind, double a, double b, double c) {
        switch (kind) {
            case SAMPLED:
                return sampledOf(a, b, c);
            case POWER:
                return powerOf(a, b, c);
            case STITCHED:
                return stitchedOf(a, b, c);
            case TEXT:
                return textOf();
            default:
                return null;
        }
    }

    private static Curve sampledOf(double a, double b, double c) {
        if (!isWhole(a, 2, MOST_SAMPLES) || !isGood(b) || !isGood(c) || b >= c) {
            return null;
        }
        return new Sampled(new int[(int) a], b, c);
    }

    private static Curve powerOf(double a, double b, double c) {
        if (!isGood(a) || !isGood(b) || !isWhole(c, 0, MOST_TIMES)) {
            return null;
        }
        return new Power(a, b, (int) c);
    }

    private Curve stitchedOf(double a, double b, double c) {
        if (!isWhole(a, 1, curveCount) || !isWhole(b, 1, curveCount) || !isWithin(c, 0.0, 1.0)) {
            return null;
        }
        return new Stitched(curveAt((int) a), curveAt((int) b), c);
    }

    private Curve textOf() {
        if (!isRightText()) {
            return null;
        }
        int[] ops = new int[stepCount];
        double[] numbers = new double[stepCount];
        for (int i = 0; i < ops.length; i++) {
            ops[i] = stepOps[i];
            numbers[i] = stepNumbers[i];
        }
        return new Text(ops, numbers);
    }

    private boolean isRightText() {
        if (stepCount < 0 || stepCount > stepOps.length || stepCount > stepNumbers.length) {
            return false;
        }
        int depth = 1;
        for (int i = 0; i < stepCount; i++) {
            int op = stepOps[i];
            if (op < 0 || op >= STEP_TAKES.length || op >= STEP_ADDS.length || depth < STEP_TAKES[op]) {
                return false;
            }
            depth += STEP_ADDS[op];
            if (depth > MOST_STACKED) {
                return false;
            }
        }
        return depth == 1;
    }

    private static boolean isRamp(int kind, double a, double b, double c, double d, double e, double f) {
        if (kind < PLANE || kind > CIRCLES || !isGood(a) || !isGood(b) || !isGood(c)) {
            return false;
        }
        if (kind == PLANE) {
            return true;
        }
        if (kind == LINE) {
            return isGood(d) && (a != c || b != d);
        }
        boolean unlike = a != d || b != e || c != f;
        return isGood(d) && isGood(e) && isGood(f) && c >= 0.0 && f >= 0.0 && unlike;
    }

    /** A new shading of kinds 1 to 3, or null as of curveOf. */
    private Shade rampOf(int kind, double a, double b, double c, double d, double e, double f) {
        if (curveCount < BANDS || !isRamp(kind, a, b, c, d, e, f)) {
            return null;
        }
        Ramp ramp = new Ramp(kind, a, b, c, d, e, f);
        for (int band = 0; band < BANDS; band++) {
            ramp.colourBy(band, curveAt(curveCount - BANDS + 1 + band));
        }
        return ramp;
    }

    /** A new shading of kinds 4 to 6, or null as of curveOf. */
    private static Shade meshOf(int kind, double a) {
        switch (kind) {
            case FREE:
                return new Mesh(0);
            case LATTICE:
                return isWhole(a, 2, MOST_COLUMNS) ? new Mesh((int) a) : null;
            case PATCH:
                return isWhole(a, 1, MOST_CUTS) ? new Patch((int) a) : null;
            default:
                return null;
        }
    }

    private static boolean isGood(double v) {
        return isWithin(v, -GOOD_LIMIT, GOOD_LIMIT);
    }

    /** Asks what is true of numbers alone, so that what is no number is never within. */
    private static boolean isWithin(double v, double least, double most) {
        return v >= least && v <= most;
    }

    private static boolean isWhole(double v, int least, int most) {
        return isWithin(v, least, most) && v == (int) v;
    }

    private static double cut(double t, double least, double most) {
        if (t < least) {
            return least;
        }
        return t > most ? most : t;
    }

    /** r is never 0.0: it begins at 1.0 or more, and no turn makes it less than its half. */
    private static double root(double x) {
        double r = 1.0 > x ? 1.0 : x;
        for (int turn = 0; turn < 40; turn++) {
            r = (r + x / r) / 2.0;
        }
        return r;
    }

    /** A text's numbers meanwhile and a value's first error: one for all values, so that they make nothing. */
    private static final class Stack {
        private final double[] numbers = new double[MOST_STACKED];
        private int depth;
        private int firstError;

        void begin() {
            depth = 0;
            firstError = 0;
        }

        void fail(int error) {
            if (firstError == 0) {
                firstError = error;
            }
        }

        double zeroFor(int error) {
            fail(error);
            return 0.0;
        }

        double inRange(double v) {
            if (v < -1.0e12 || v > 1.0e12) {
                fail(ERROR_RANGE);
                return 0.0;
            }
            return v;
        }

        void push(double v) {
            if (depth >= 0 && depth < numbers.length) {
                numbers[depth] = v;
                depth++;
            }
        }

        double pop() {
            if (depth < 1 || depth > numbers.length) {
                return 0.0;
            }
            depth--;
            return numbers[depth];
        }
    }

    /** A function of one number. */
    private abstract static class Curve {
        abstract double at(double t, Stack stack);
    }

    private static final class Sampled extends Curve {
        private final int[] samples;
        private final double from;
        private final double to;

        Sampled(int[] samples, double from, double to) {
            this.samples = samples;
            this.from = from;
            this.to = to;
        }

        boolean has(int i) {
            return i >= 0 && i < samples.length;
        }

        int exchange(int i, int sample) {
            if (!has(i)) {
                return 0;
            }
            int before = samples[i];
            samples[i] = sample;
            return before;
        }

        @Override
        double at(double t, Stack stack) {
            int last = samples.length - 1;
            double width = to - from;
            if (last < 1 || width <= 0.0) {
                return 0.0;
            }
            double u = (cut(t, from, to) - from) * last / width;
            int i = Math.max((int) u, 0);
            if (i >= last) {
                return samples[last] / 255.0;
            }
            return samples[i] / 255.0 + (u - i) * (samples[i + 1] - samples[i]) / 255.0;
        }
    }

    private static final class Power extends Curve {
        private final double first;
        private final double second;
        private final int times;

        Power(double first, double second, int times) {
            this.first = first;
            this.second = second;
            this.times = times;
        }

        @Override
        double at(double t, Stack stack) {
            double w = cut(t, 0.0, 1.0);
            if (times == 0 && w == 0.0) {
                stack.fail(ERROR_POWER);
            }
            double p = 1.0;
            for (int i = 0; i < times; i++) {
                p = p * w;
            }
            return first + p * (second - first);
        }
    }

    private static final class Stitched extends Curve {
        private final Curve lower;
        private final Curve upper;
        private final double bound;

        Stitched(Curve lower, Curve upper, double bound) {
            this.lower = lower;
            this.upper = upper;
            this.bound = bound;
        }

        /** Goes down by a loop: only one part is ever asked, and parts are older functions, so few are in a chain. */
        @Override
        double at(double t, Stack stack) {
            Curve part = this;
            double place = t;
            for (int i = 0; i < MOST_FUNCTIONS && part instanceof Stitched; i++) {
                Stitched stitched = (Stitched) part;
                double w = cut(place, 0.0, 1.0);
                part = w < stitched.bound ? stitched.lower : stitched.upper;
                place = stitched.within(w);
            }
            if (part == null || part instanceof Stitched) {
                return 0.0;
            }
            return part.at(place, stack);
        }

        private double within(double w) {
            if (w < bound) {
                return w / bound;
            }
            return bound == 1.0 ? 0.0 : (w - bound) / (1.0 - bound);
        }
    }

    private static final class Text extends Curve {
        private final int[] ops;
        private final double[] numbers;

        Text(int[] ops, double[] numbers) {
            this.ops = ops;
            this.numbers = numbers;
        }

        @Override
        double at(double t, Stack stack) {
            stack.push(t);
            for (int i = 0; i < ops.length && i < numbers.length; i++) {
                if (ops[i] == 0) {
                    stack.push(numbers[i]);
                } else {
                    step(ops[i], stack);
                }
            }
            return stack.pop();
        }

        private static void step(int op, Stack stack) {
            int takes = op >= 0 && op < STEP_TAKES.length ? STEP_TAKES[op] : 0;
            double c = takes > 2 ? stack.pop() : 0.0;
            double b = takes > 1 ? stack.pop() : 0.0;
            double a = takes > 0 ? stack.pop() : 0.0;
            switch (op) {
                case 1:
                    stack.push(stack.inRange(a + b));
                    break;
                case 2:
                    stack.push(stack.inRange(a - b));
                    break;
                case 3:
                    stack.push(stack.inRange(a * b));
                    break;
                case 4:
                    stack.push(b == 0.0 ? stack.zeroFor(ERROR_DIVISOR) : stack.inRange(a / b));
                    break;
                case 5:
                    stack.push(-a);
                    break;
                case 6:
                    stack.push(a < 0.0 ? -a : a);
                    break;
                case 7:
                    stack.push(a);
                    stack.push(a);
                    break;
                case 8:
                    stack.push(b);
                    stack.push(a);
                    break;
                case 10:
                    stack.push(a < b ? 1.0 : 0.0);
                    break;
                case 11:
                    stack.push(a != 0.0 ? b : c);
                    break;
                case 12:
                    stack.push(cut(a, 0.0, 1.0));
                    break;
                case 13:
                    stack.push(a < 0.0 ? stack.zeroFor(ERROR_ROOT) : root(a));
                    break;
                default:
                    // Step 9 ends here: what it takes is dropped.
                    break;
            }
        }
    }

    /** A shading; what only some kinds can do is answered with 0 here, for the others. */
    private abstract static class Shade {
        /** x and y are those of the point's middle. */
        abstract int bandAt(double x, double y, int band, Stack stack, Corners corners);

        int addVertex(double x, double y, int colour) {
            return 0;
        }

        int movePoint(int i, double x, double y) {
            return 0;
        }

        int extendTo(boolean begins, boolean ends) {
            return 0;
        }

        int triangles() {
            return 0;
        }
    }

    /** A plane, a line or circles: a number for each point, and a function of it for each band. */
    private static final class Ramp extends Shade {
        private final int kind;
        private final double a;
        private final double b;
        private final double c;
        private final double d;
        private final double e;
        private final double f;
        private final Curve[] bands = new Curve[BANDS];
        private boolean begins;
        private boolean ends;

        Ramp(int kind, double a, double b, double c, double d, double e, double f) {
            this.kind = kind;
            this.a = a;
            this.b = b;
            this.c = c;
            this.d = d;
            this.e = e;
            this.f = f;
        }

        void colourBy(int band, Curve curve) {
            if (band >= 0 && band < bands.length) {
                bands[band] = curve;
            }
        }

        @Override
        int extendTo(boolean atBegin, boolean atEnd) {
            if (kind == PLANE) {
                return 0;
            }
            begins = atBegin;
            ends = atEnd;
            return 1;
        }

        @Override
        int bandAt(double x, double y, int band, Stack stack, Corners corners) {
            double t = kind == PLANE ? a * x + b * y + c : kind == LINE ? onLine(x, y) : onCircles(x, y);
            if (kind != PLANE && t < 0.0) {
                return NOT_PAINTED;
            }
            Curve curve = band >= 0 && band < bands.length ? bands[band] : null;
            if (curve == null) {
                return NOT_PAINTED;
            }
            stack.begin();
            return (int) (cut(curve.at(t, stack), 0.0, 1.0) * 255.0 + 0.5);
        }

        /** The number that t is painted as, 0.0 .. 1.0; below 0.0 where it is not painted. */
        private double painted(double t) {
            if (t < 0.0) {
                return begins ? 0.0 : NOT_PAINTED;
            }
            if (t > 1.0) {
                return ends ? 1.0 : NOT_PAINTED;
            }
            return t;
        }

        /** As painted(t). The squares of a very short line may be 0.0: then t is endless, or no number at all. */
        private double onLine(double x, double y) {
            double along = (x - a) * (c - a) + (y - b) * (d - b);
            double length = (c - a) * (c - a) + (d - b) * (d - b);
            if (length != 0.0) {
                return painted(along / length);
            }
            if (along == 0.0) {
                return NOT_PAINTED;
            }
            return painted(along < 0.0 ? -1.0 : 2.0);
        }

        private double onCircles(double x, double y) {
            double dx = d - a;
            double dy = e - b;
            double dr = f - c;
            double square = dx * dx + dy * dy - dr * dr;
            double half = (x - a) * dx + (y - b) * dy + c * dr;
            double rest = (x - a) * (x - a) + (y - b) * (y - b) - c * c;
            if (square == 0.0) {
                return half == 0.0 ? NOT_PAINTED : counted(rest / (2.0 * half), dr);
            }
            double under = half * half - square * rest;
            if (under < 0.0) {
                return NOT_PAINTED;
            }
            double apart = root(under);
            double one = (half + apart) / square;
            double other = (half - apart) / square;
            double t = counted(one >= other ? one : other, dr);
            return t >= 0.0 ? t : counted(one >= other ? other : one, dr);
        }

        /** As painted(t), where t counts. Without dr the radius stays c, and an endless t must not meet that 0.0. */
        private double counted(double t, double dr) {
            if (dr != 0.0 && c + t * dr < 0.0) {
                return NOT_PAINTED;
            }
            return painted(t);
        }
    }

    /** Free triangles, without columns, or a lattice with them. */
    private static class Mesh extends Shade {
        private final int columns;
        private final double[] xs = new double[MOST_VERTICES];
        private final double[] ys = new double[MOST_VERTICES];
        private final int[] colours = new int[MOST_VERTICES];
        private int count;

        Mesh(int columns) {
            this.columns = columns;
        }

        int vertices() {
            return count;
        }

        /** A band of a vertex's colour. */
        int tone(int i, int band) {
            return i >= 0 && i < colours.length ? (colours[i] >> (8 * band)) & 255 : 0;
        }

        @Override
        int addVertex(double x, double y, int colour) {
            if (count < 0 || count >= MOST_VERTICES) {
                return 0;
            }
            xs[count] = x;
            ys[count] = y;
            colours[count] = colour;
            count++;
            return count;
        }

        /** How many rows of a lattice are full. */
        int rows() {
            return columns == 0 ? 0 : count / columns;
        }

        void load(int band, Corners corners) {
            for (int i = 0; i < count && i < MOST_VERTICES; i++) {
                corners.put(i, xs[i], ys[i], tone(i, band));
            }
        }

        @Override
        int triangles() {
            if (columns == 0) {
                return count / 3;
            }
            int rows = rows();
            return rows < 2 ? 0 : 2 * (rows - 1) * (columns - 1);
        }

        @Override
        int bandAt(double x, double y, int band, Stack stack, Corners corners) {
            load(band, corners);
            return corners.lastPaint(triangles(), columns, x, y);
        }
    }

    /** A lattice whose places and colours are reckoned from points, and from the first vertices' colours. */
    private static final class Patch extends Mesh {
        private final int cuts;
        private final double[] pointXs = new double[PATCH_POINTS];
        private final double[] pointYs = new double[PATCH_POINTS];

        Patch(int cuts) {
            super(cuts + 1);
            this.cuts = cuts;
        }

        @Override
        int movePoint(int i, double x, double y) {
            if (i < 0 || i >= PATCH_POINTS) {
                return 0;
            }
            pointXs[i] = x;
            pointYs[i] = y;
            return 1;
        }

        @Override
        int rows() {
            return vertices() < PATCH_CORNERS ? 0 : cuts + 1;
        }

        @Override
        void load(int band, Corners corners) {
            double whole = cuts;
            if (whole < 1.0) {
                return;
            }
            for (int j = 0; j <= cuts; j++) {
                for (int i = 0; i <= cuts; i++) {
                    putPlace(j * (cuts + 1) + i, i / whole, j / whole, band, corners);
                }
            }
        }

        private void putPlace(int index, double u, double v, int band, Corners corners) {
            double tone = (1.0 - u) * (1.0 - v) * tone(0, band) + u * (1.0 - v) * tone(1, band)
                    + (1.0 - u) * v * tone(3, band) + u * v * tone(2, band);
            corners.put(index, place(pointXs, u, v), place(pointYs, u, v), tone);
        }

        private static double place(double[] at, double u, double v) {
            if (at.length < PATCH_POINTS) {
                return 0.0;
            }
            return (1.0 - v) * bent(at[0], at[1], at[2], at[3], u) + v * bent(at[9], at[8], at[7], at[6], u)
                    + (1.0 - u) * bent(at[0], at[11], at[10], at[9], v) + u * bent(at[3], at[4], at[5], at[6], v)
                    - ((1.0 - u) * (1.0 - v) * at[0] + u * (1.0 - v) * at[3]
                            + (1.0 - u) * v * at[9] + u * v * at[6]);
        }

        private static double bent(double p, double q, double r, double s, double u) {
            double w = 1.0 - u;
            return w * w * w * p + 3.0 * u * w * w * q + 3.0 * u * u * w * r + u * u * u * s;
        }
    }

    /** The corners of triangles with one band of their colours: one for all points, so that they make nothing. */
    private static final class Corners {
        private final double[] xs = new double[MOST_VERTICES];
        private final double[] ys = new double[MOST_VERTICES];
        private final double[] tones = new double[MOST_VERTICES];

        void put(int i, double x, double y, double tone) {
            if (i >= 0 && i < MOST_VERTICES) {
                xs[i] = x;
                ys[i] = y;
                tones[i] = tone;
            }
        }

        /** What the last triangle that paints the point makes of it: the first one, from the end. */
        int lastPaint(int triangles, int columns, double x, double y) {
            for (int i = triangles - 1; i >= 0; i--) {
                int tone = columns < 2 ? paint(3 * i, 3 * i + 1, 3 * i + 2, x, y) : paintOfLattice(i, columns, x, y);
                if (tone != NOT_PAINTED) {
                    return tone;
                }
            }
            return NOT_PAINTED;
        }

        private int paintOfLattice(int i, int columns, double x, double y) {
            int cells = columns - 1;
            if (cells < 1) {
                return NOT_PAINTED;
            }
            int cell = i / 2;
            int upperLeft = cell / cells * columns + cell % cells;
            int lowerLeft = upperLeft + columns;
            if (i % 2 == 0) {
                return paint(upperLeft, upperLeft + 1, lowerLeft, x, y);
            }
            return paint(upperLeft + 1, lowerLeft, lowerLeft + 1, x, y);
        }

        private int paint(int one, int two, int three, double x, double y) {
            if (!has(one) || !has(two) || !has(three)) {
                return NOT_PAINTED;
            }
            double acrossP = xs[one] - xs[three];
            double downP = ys[one] - ys[three];
            double acrossQ = xs[three] - xs[two];
            double downQ = ys[two] - ys[three];
            double den = downQ * acrossP + acrossQ * downP;
            if (den == 0.0) {
                return NOT_PAINTED;
            }
            double across = x - xs[three];
            double down = y - ys[three];
            double p = (downQ * across + acrossQ * down) / den;
            double q = ((ys[three] - ys[one]) * across + acrossP * down) / den;
            // Before r: both may be endless in a very thin triangle, and r no number if one of them is below 0.0.
            if (p < 0.0 || q < 0.0) {
                return NOT_PAINTED;
            }
            double r = 1.0 - p - q;
            return r < 0.0 ? NOT_PAINTED : (int) (p * tones[one] + q * tones[two] + r * tones[three] + 0.5);
        }

        private static boolean has(int i) {
            return i >= 0 && i < MOST_VERTICES;
        }
    }
}
