/** What several tests begin with. */
final class Fixtures {
    private static final double[][] SQUARE = {
        {0.0, 0.0}, {4.0, 0.0}, {8.0, 0.0}, {12.0, 0.0}, {12.0, 4.0}, {12.0, 8.0},
        {12.0, 12.0}, {8.0, 12.0}, {4.0, 12.0}, {0.0, 12.0}, {0.0, 8.0}, {0.0, 4.0}};

    private Fixtures() {
    }

    /** An object with three functions: t, 1.0 - t and t * t, where t is 0.0 .. 1.0. */
    static ShadeRows withFunctions() {
        ShadeRows x = new ShadeRows();
        x.function(1, 0.0, 1.0, 1.0, 0.0);
        x.function(1, 1.0, 0.0, 1.0, 0.0);
        x.function(1, 0.0, 1.0, 2.0, 0.0);
        return x;
    }

    /** A shading of kind 4 to 6. */
    static int mesh(ShadeRows x, int kind, double a) {
        return x.shading(kind, a, 0.0, 0.0, 0.0, 0.0, 0.0);
    }

    /** A patch whose places are 12.0 times u and v. */
    static int squarePatch(ShadeRows x, double cuts) {
        int patch = mesh(x, 6, cuts);
        for (int i = 0; i < SQUARE.length; i++) {
            x.patch(patch, i, SQUARE[i][0], SQUARE[i][1]);
        }
        return patch;
    }

    static void colours(ShadeRows x, int shading, int... colours) {
        for (int colour : colours) {
            x.vertex(shading, 9.0, 9.0, colour);
        }
    }

    /** All three bands of a point. */
    static String bands(ShadeRows x, int shading, int px, int py) {
        return x.point(shading, px, py, 0) + " " + x.point(shading, px, py, 1) + " " + x.point(shading, px, py, 2);
    }
}
