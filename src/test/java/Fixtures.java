/** What several tests begin with. */
final class Fixtures {
    static final String NO = "-1 -1 -1";

    private static final double[][] SQUARE = {
        {0.0, 0.0}, {4.0, 0.0}, {8.0, 0.0}, {12.0, 0.0}, {12.0, 4.0}, {12.0, 8.0},
        {12.0, 12.0}, {8.0, 12.0}, {4.0, 12.0}, {0.0, 12.0}, {0.0, 8.0}, {0.0, 4.0}};

    private Fixtures() {
    }

    /** Numbers that are GOOD, the outermost ones among them. */
    static double[] good() {
        return new double[] {-1000000.0, -0.5, -0.0, 0.0, Double.MIN_VALUE, 0.25, 1000000.0};
    }

    /** Numbers that are not GOOD, or none at all; the first two are as near as may be. */
    static double[] notGood() {
        return new double[] {Math.nextDown(-1000000.0), Math.nextUp(1000000.0), -Double.MAX_VALUE, Double.MAX_VALUE,
            Double.NEGATIVE_INFINITY, Double.POSITIVE_INFINITY, Double.NaN};
    }

    /** Numbers of functions or shadings that there are not, where there are count of them. */
    static int[] noNumbers(int count) {
        return new int[] {0, -1, count + 1, 25, Integer.MAX_VALUE, Integer.MIN_VALUE};
    }

    /** An object with three functions: t, 1.0 - t and t * t, where t is 0.0 .. 1.0. */
    static ShadeRows withFunctions() {
        ShadeRows x = new ShadeRows();
        x.function(1, 0.0, 1.0, 1.0, 0.0);
        x.function(1, 1.0, 0.0, 1.0, 0.0);
        x.function(1, 0.0, 1.0, 2.0, 0.0);
        return x;
    }

    /** withFunctions() and shadings 1 to 6, of kinds 1 to 6. */
    static ShadeRows withAllKinds() {
        ShadeRows x = withFunctions();
        for (int kind = 1; kind <= 6; kind++) {
            x.shading(kind, 2.0, 0.0, 1.0, 1.0, 2.0, 3.0);
        }
        return x;
    }

    /** A function of steps, each an op and its number. */
    static int text(ShadeRows x, double... steps) {
        for (int i = 0; i + 1 < steps.length; i += 2) {
            x.text((int) steps[i], steps[i + 1]);
        }
        return x.function(3, 0.0, 0.0, 0.0, 0.0);
    }

    /** A shading of kind 4 to 6. */
    static int mesh(ShadeRows x, int kind, double a) {
        return x.shading(kind, a, 0.0, 0.0, 0.0, 0.0, 0.0);
    }

    /** Vertices of one colour: x and y of each. */
    static void vertices(ShadeRows x, int shading, int colour, double... places) {
        for (int i = 0; i + 1 < places.length; i += 2) {
            x.vertex(shading, places[i], places[i + 1], colour);
        }
    }

    /** A patch whose places are 12.0 times u and v. */
    static int squarePatch(ShadeRows x, double cuts) {
        int patch = mesh(x, 6, cuts);
        for (int i = 0; i < SQUARE.length; i++) {
            x.patch(patch, i, SQUARE[i][0], SQUARE[i][1]);
        }
        return patch;
    }

    static void colours(ShadeRows x, int shading, int... colours) {
        for (int colour : colours) {
            x.vertex(shading, 9.0, 9.0, colour);
        }
    }

    /** All three bands of a point. */
    static String bands(ShadeRows x, int shading, int px, int py) {
        return x.point(shading, px, py, 0) + " " + x.point(shading, px, py, 1) + " " + x.point(shading, px, py, 2);
    }
}
