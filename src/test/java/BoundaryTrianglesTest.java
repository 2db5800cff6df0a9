/** Section "Terms": shadings of triangles. */
public final class BoundaryTrianglesTest {
    private static final String NO = Fixtures.NO;

    public static void main(String[] args) {
        Check check = new Check("boundaries, triangles");
        check.sentence("FREE triangles: of VERTICES, by threes", BoundaryTrianglesTest::threes);
        check.sentence("LATTICE: a vertices (2 .. 8, whole) in a row", BoundaryTrianglesTest::columns);
        check.sentence("of each two rows that are full", BoundaryTrianglesTest::fullRows);
        check.sentence("and two columns next to each other", BoundaryTrianglesTest::nextColumns);
        check.sentence("triangles upper left, upper right, lower left; upper right, lower left, lower right",
                BoundaryTrianglesTest::halves);
        check.sentence("PATCH, of a (1 .. 6, whole) by a pieces", BoundaryTrianglesTest::cuts);
        check.sentence("POINTS 0 .. 11, at first (0.0, 0.0), around: corners 0, 3, 6, 9",
                BoundaryTrianglesTest::pointsAtFirst);
        check.sentence("Its four first vertices tell the colours of the corners 0, 3, 6, 9",
                BoundaryTrianglesTest::fourColours);
        check.sentence("(their places do not matter", BoundaryTrianglesTest::placesDoNotMatter);
        check.sentence("without four there are no triangles)", BoundaryTrianglesTest::withoutFour);
        check.sentence("Of the places at (i / a, j / a) triangles are made as of a lattice, rows by j, columns by i",
                BoundaryTrianglesTest::patchRows);
        check.sentence("and if it is not 0.0", BoundaryTrianglesTest::flat);
        check.sentence("none of them below 0.0: it is painted", BoundaryTrianglesTest::edges);
        check.sentence("each band is (int) (p * P's + q * Q's + r * R's + 0.5)", BoundaryTrianglesTest::rounded);
        check.sentence("The last triangle that paints a point counts", BoundaryTrianglesTest::lastOne);
        check.end();
    }

    private static void due(Check check, ShadeRows x, int shading, int px, int py, String due) {
        check.same("point(" + shading + ", " + px + ", " + py + ")", Fixtures.bands(x, shading, px, py), due);
    }

    /** Vertices one by one: a triangle is there with the third, the sixth, and the last of sixty. */
    private static void threes(Check check) {
        ShadeRows x = new ShadeRows();
        Fixtures.mesh(x, 4, 0.0);
        double[] places = {0.0, 0.0, 8.0, 0.0, 0.0, 8.0};
        for (int i = 0; i < 60; i++) {
            check.same("pieces of " + i, x.pieces(1), i / 3);
            int band = x.point(1, 1, 1, 0);
            check.same("painted with " + i, band, i < 3 ? -1 : 4 * (i / 3));
            Fixtures.vertices(x, 1, 4 * (i / 3 + 1), places[i % 3 * 2], places[i % 3 * 2 + 1]);
        }
        check.same("pieces of 60", x.pieces(1), 20);
        due(check, x, 1, 1, 1, "80 0 0");
    }

    private static void columns(Check check) {
        double[] refused = {-2.0, 0.0, 1.0, Math.nextDown(2.0), Math.nextUp(2.0), 2.5, 7.5, Math.nextUp(8.0), 9.0,
            4294967298.0, Double.NaN, Double.POSITIVE_INFINITY};
        ShadeRows x = new ShadeRows();
        for (double a : refused) {
            check.same(a + " in a row", Fixtures.mesh(x, 5, a), 0);
        }
        for (int a = 2; a <= 8; a++) {
            int n = Fixtures.mesh(x, 5, a);
            check.same(a + " in a row", n, a - 1);
            Fixtures.colours(x, n, new int[2 * a]);
            check.same("two rows of " + a, x.pieces(n), 2 * (a - 1));
        }
    }

    /** A lattice of three in a row, whose cells are 4.0 wide and high. */
    private static void fullRows(Check check) {
        ShadeRows x = new ShadeRows();
        Fixtures.mesh(x, 5, 3.0);
        int[] pieces = {0, 0, 0, 0, 0, 0, 4, 4, 4, 8};
        for (int i = 0; i <= 9; i++) {
            check.same("pieces of " + i, x.pieces(1), pieces[i]);
            due(check, x, 1, 1, 1, i < 6 ? NO : "9 0 0");
            due(check, x, 1, 6, 2, i < 6 ? NO : "9 0 0");
            due(check, x, 1, 1, 5, i < 9 ? NO : "9 0 0");
            Fixtures.vertices(x, 1, 9, 4.0 * (i % 3), 4.0 * (i / 3));
        }
        ShadeRows full = new ShadeRows();
        Fixtures.mesh(full, 5, 8.0);
        for (int i = 0; i < 60; i++) {
            Fixtures.vertices(full, 1, 9, i % 8, i / 8);
        }
        check.same("seven rows of eight, and four more", full.pieces(1), 6 * 7 * 2);
        due(check, full, 1, 6, 5, "9 0 0");
        due(check, full, 1, 0, 6, NO);
    }

    /** The middle column lies in one point far above: between the outer ones, no neighbours, is nothing. */
    private static void nextColumns(Check check) {
        ShadeRows x = new ShadeRows();
        Fixtures.mesh(x, 5, 3.0);
        Fixtures.vertices(x, 1, 9, 0.0, 0.0, 5.0, -20.0, 10.0, 0.0, 0.0, 8.0, 5.0, -20.0, 10.0, 8.0);
        check.same("pieces", x.pieces(1), 4);
        due(check, x, 1, 0, 4, "9 0 0");
        due(check, x, 1, 9, 4, "9 0 0");
        due(check, x, 1, 5, 4, NO);
        due(check, x, 1, 5, 0, NO);
        Fixtures.mesh(x, 5, 2.0);
        Fixtures.vertices(x, 2, 9, 0.0, 0.0, 8.0, 0.0, 0.0, 8.0, 8.0, 8.0);
        check.same("pieces of one cell", x.pieces(2), 2);
        Fixtures.vertices(x, 2, 9, 0.0, 16.0, 8.0, 16.0);
        check.same("pieces of two cells", x.pieces(2), 4);
        due(check, x, 2, 0, 0, "9 0 0");
        due(check, x, 2, 7, 7, "9 0 0");
        due(check, x, 2, 0, 8, "9 0 0");
        due(check, x, 2, 7, 15, "9 0 0");
    }

    /** The corners have tones 0, 80, 160 and 40: no other way to cut the cell gives these. */
    private static void halves(Check check) {
        ShadeRows x = new ShadeRows();
        Fixtures.mesh(x, 5, 2.0);
        int[] tones = {0, 80, 160, 40};
        for (int i = 0; i < 4; i++) {
            Fixtures.vertices(x, 1, tones[i], 0.5 + 8.0 * (i % 2), 0.5 + 8.0 * (i / 2));
        }
        due(check, x, 1, 0, 0, "0 0 0");
        due(check, x, 1, 8, 0, "80 0 0");
        due(check, x, 1, 0, 8, "160 0 0");
        due(check, x, 1, 8, 8, "40 0 0");
        due(check, x, 1, 4, 4, "120 0 0");
        due(check, x, 1, 2, 2, "60 0 0");
        due(check, x, 1, 6, 6, "80 0 0");
    }

    private static void cuts(Check check) {
        double[] refused = {-1.0, 0.0, Double.MIN_VALUE, Math.nextDown(1.0), Math.nextUp(1.0), 5.5, Math.nextUp(6.0),
            7.0, 4294967297.0, Double.NaN, Double.POSITIVE_INFINITY};
        ShadeRows x = new ShadeRows();
        for (double a : refused) {
            check.same("by " + a, Fixtures.mesh(x, 6, a), 0);
        }
        for (int a = 1; a <= 6; a++) {
            int n = Fixtures.squarePatch(x, a);
            check.same("by " + a, n, a);
            Fixtures.colours(x, n, 9, 9, 9, 9);
            check.same("pieces by " + a, x.pieces(n), 2 * a * a);
            due(check, x, n, 0, 0, "9 0 0");
            due(check, x, n, 11, 11, "9 0 0");
        }
    }

    /** All points lie on each other first; each corner alone can then be seen where it is moved to. */
    private static void pointsAtFirst(Check check) {
        ShadeRows x = new ShadeRows();
        int first = Fixtures.mesh(x, 6, 1.0);
        Fixtures.colours(x, first, 9, 9, 9, 9);
        check.same("pieces", x.pieces(first), 2);
        due(check, x, first, 0, 0, NO);
        due(check, x, first, -1, -1, NO);
        int[] corners = {0, 3, 6, 9};
        for (int i = 0; i < 4; i++) {
            int n = Fixtures.mesh(x, 6, 1.0);
            Fixtures.colours(x, n, 9, 9, 9, 9);
            x.patch(n, corners[i], 8.0, 0.0);
            x.patch(n, corners[(i + 1) % 4], 0.0, 8.0);
            due(check, x, n, 2, 2, "9 0 0");
            due(check, x, n, 0, 3, "9 0 0");
            due(check, x, n, 3, 0, "9 0 0");
            due(check, x, n, 5, 5, NO);
        }
        bentAtFirst(check, x);
    }

    /** With all but the corners at (0.0, 0.0) the middle of the patch is at (-2.0, -2.0). */
    private static void bentAtFirst(Check check, ShadeRows x) {
        int n = Fixtures.mesh(x, 6, 2.0);
        Fixtures.colours(x, n, 9, 9, 9, 9);
        x.patch(n, 3, 8.0, 0.0);
        x.patch(n, 6, 8.0, 8.0);
        x.patch(n, 9, 0.0, 8.0);
        due(check, x, n, -2, -2, "9 0 0");
        due(check, x, n, -3, -3, NO);
    }

    private static void fourColours(Check check) {
        ShadeRows x = new ShadeRows();
        int n = Fixtures.mesh(x, 6, 1.0);
        x.patch(n, 0, 0.5, 0.5);
        x.patch(n, 3, 8.5, 0.5);
        x.patch(n, 6, 8.5, 8.5);
        x.patch(n, 9, 0.5, 8.5);
        Fixtures.colours(x, n, 10, 20, 30, 40);
        for (int more = 0; more <= 1; more++) {
            due(check, x, n, 0, 0, "10 0 0");
            due(check, x, n, 8, 0, "20 0 0");
            due(check, x, n, 8, 8, "30 0 0");
            due(check, x, n, 0, 8, "40 0 0");
            check.same("pieces", x.pieces(n), 2);
            Fixtures.colours(x, n, 200, 201, 202, 203);
        }
    }

    private static void placesDoNotMatter(Check check) {
        ShadeRows x = new ShadeRows();
        for (double place : new double[] {0.0, -1000000.0, 1000000.0, 5.0}) {
            int n = Fixtures.squarePatch(x, 2.0);
            Fixtures.vertices(x, n, 9, place, place, place, -place, -place, place, 0.0, place);
            due(check, x, n, 5, 5, "9 0 0");
            due(check, x, n, 11, 0, "9 0 0");
            due(check, x, n, 12, 0, NO);
        }
    }

    private static void withoutFour(Check check) {
        for (int a = 1; a <= 6; a++) {
            ShadeRows x = new ShadeRows();
            Fixtures.squarePatch(x, a);
            for (int i = 0; i < 4; i++) {
                check.same("pieces with " + i + " by " + a, x.pieces(1), 0);
                due(check, x, 1, 5, 5, NO);
                Fixtures.colours(x, 1, 9);
            }
            check.same("pieces with four by " + a, x.pieces(1), 2 * a * a);
            due(check, x, 1, 5, 5, "9 0 0");
        }
    }

    /** Folded patches: later rows lie on the first ones, later columns, or the lower left on the upper right. */
    private static void patchRows(Check check) {
        ShadeRows x = new ShadeRows();
        int down = patch(x, 0, 0, 4, 0, 8, 0, 12, 0, 12, 16, 12, 16, 12, 0, 8, 0, 4, 0, 0, 0, 0, 16, 0, 16);
        Fixtures.colours(x, down, 0, 0, 200, 200);
        due(check, x, down, 5, 0, "196 0 0");
        due(check, x, down, 5, 11, "104 0 0");
        int right = patch(x, 0, 0, 16, 0, 16, 0, 0, 0, 0, 4, 0, 8, 0, 12, 16, 12, 16, 12, 0, 12, 0, 8, 0, 4);
        Fixtures.colours(x, right, 0, 200, 200, 0);
        due(check, x, right, 0, 5, "196 0 0");
        due(check, x, right, 11, 5, "104 0 0");
        int aslant = patch(x, 0, 0, 4, 0, 8, 0, 12, 0, 12, 4, 12, 8, 12, 12, 12, 8, 12, 4, 12, 0, 8, 0, 4, 0);
        Fixtures.colours(x, aslant, 0, 10, 0, 200);
        due(check, x, aslant, 9, 1, "110 0 0");
    }

    /** A patch of two by two, with all its points. */
    private static int patch(ShadeRows x, int... places) {
        int n = Fixtures.mesh(x, 6, 2.0);
        for (int i = 0; i < 12; i++) {
            x.patch(n, i, places[2 * i], places[2 * i + 1]);
        }
        return n;
    }

    private static void flat(Check check) {
        ShadeRows x = new ShadeRows();
        Fixtures.mesh(x, 4, 0.0);
        Fixtures.vertices(x, 1, 9, 0.5, 0.5, 4.5, 0.5, 8.5, 0.5);
        Fixtures.vertices(x, 1, 9, 0.5, 0.5, 4.5, 4.5, 8.5, 8.5);
        Fixtures.vertices(x, 1, 9, 0.5, 0.5, 0.5, 0.5, 8.5, 0.5);
        Fixtures.vertices(x, 1, 9, 0.5, 0.5, 0.5, 0.5, 0.5, 0.5);
        check.same("pieces, flat ones too", x.pieces(1), 4);
        for (int i = 0; i <= 8; i++) {
            due(check, x, 1, i, 0, NO);
            due(check, x, 1, i, i, NO);
        }
        Fixtures.vertices(x, 1, 9, 0.5, 0.5, 8.5, 0.5, 0.5, Math.nextUp(0.5));
        due(check, x, 1, 4, 0, "9 0 0");
        due(check, x, 1, 4, 1, NO);
        Fixtures.mesh(x, 4, 0.0);
        Fixtures.vertices(x, 2, 9, 8.5, 0.5, 0.5, 0.5, 0.5, 8.5);
        Fixtures.vertices(x, 2, 200, 0.5, 0.5, 4.5, 0.5, 8.5, 0.5);
        due(check, x, 2, 4, 0, "9 0 0");
    }

    /** Middles at the corners and on the edges of a triangle, in both turns, and those a hair outside. */
    private static void edges(Check check) {
        ShadeRows x = new ShadeRows();
        Fixtures.mesh(x, 4, 0.0);
        Fixtures.vertices(x, 1, 9, 0.5, 0.5, 8.5, 0.5, 0.5, 8.5);
        Fixtures.mesh(x, 4, 0.0);
        Fixtures.vertices(x, 2, 9, 0.5, 0.5, 0.5, 8.5, 8.5, 0.5);
        for (int n = 1; n <= 2; n++) {
            for (int i = 0; i <= 8; i++) {
                due(check, x, n, i, 0, "9 0 0");
                due(check, x, n, 0, i, "9 0 0");
                due(check, x, n, i, 8 - i, "9 0 0");
                due(check, x, n, i, -1, NO);
                due(check, x, n, -1, i, NO);
                due(check, x, n, i, 9 - i, NO);
            }
        }
        double in = Math.nextUp(0.5);
        Fixtures.mesh(x, 4, 0.0);
        Fixtures.vertices(x, 3, 9, in, 0.5, 8.5, 0.5, in, 8.5);
        due(check, x, 3, 0, 4, NO);
        due(check, x, 3, 1, 4, "9 0 0");
        Fixtures.mesh(x, 4, 0.0);
        Fixtures.vertices(x, 4, 9, 8.5, in, 0.5, 8.5, 0.5, in);
        due(check, x, 4, 4, 0, NO);
        due(check, x, 4, 4, 1, "9 0 0");
        Fixtures.mesh(x, 4, 0.0);
        Fixtures.vertices(x, 5, 9, 0.5, 0.5, Math.nextDown(8.5), 0.5, 0.5, Math.nextDown(8.5));
        due(check, x, 5, 4, 4, NO);
        due(check, x, 5, 4, 3, "9 0 0");
        Fixtures.mesh(x, 4, 0.0);
        Fixtures.vertices(x, 6, 9, Math.nextDown(8.5), 0.5, 0.5, Math.nextDown(8.5), 0.5, 0.5);
        due(check, x, 6, 4, 4, NO);
        due(check, x, 6, 4, 3, "9 0 0");
    }

    /** Half of the way from 0 to an odd tone goes up, less goes down; 255 stays 255. */
    private static void rounded(Check check) {
        ShadeRows x = new ShadeRows();
        Fixtures.mesh(x, 4, 0.0);
        x.vertex(1, 0.5, 0.5, 0xff0000);
        x.vertex(1, 8.5, 0.5, 0xff0101);
        x.vertex(1, 0.5, 8.5, 0xff0200);
        due(check, x, 1, 0, 0, "0 0 255");
        due(check, x, 1, 3, 0, "0 0 255");
        due(check, x, 1, 4, 0, "1 1 255");
        due(check, x, 1, 8, 0, "1 1 255");
        due(check, x, 1, 0, 1, "0 0 255");
        due(check, x, 1, 0, 2, "0 1 255");
        due(check, x, 1, 0, 6, "0 2 255");
    }

    private static void lastOne(Check check) {
        ShadeRows x = new ShadeRows();
        Fixtures.mesh(x, 4, 0.0);
        double[] wide = {0.0, 0.0, 16.0, 0.0, 0.0, 16.0};
        double[] narrow = {0.0, 0.0, 4.0, 0.0, 0.0, 4.0};
        Fixtures.vertices(x, 1, 10, wide);
        due(check, x, 1, 1, 1, "10 0 0");
        Fixtures.vertices(x, 1, 20, narrow);
        due(check, x, 1, 1, 1, "20 0 0");
        due(check, x, 1, 5, 5, "10 0 0");
        Fixtures.vertices(x, 1, 30, wide);
        due(check, x, 1, 1, 1, "30 0 0");
        due(check, x, 1, 5, 5, "30 0 0");
        Fixtures.vertices(x, 1, 40, 100.0, 100.0, 101.0, 100.0, 100.0, 101.0);
        due(check, x, 1, 1, 1, "30 0 0");
        Fixtures.mesh(x, 5, 2.0);
        for (int row = 0; row < 4; row++) {
            Fixtures.vertices(x, 2, 10 * row, 0.0, row % 2 * 8.0, 8.0, row % 2 * 8.0);
        }
        due(check, x, 2, 1, 1, "22 0 0");
        due(check, x, 2, 6, 6, "28 0 0");
        Fixtures.mesh(x, 5, 2.0);
        Fixtures.vertices(x, 3, 10, 0.0, 0.0, 8.0, 0.0, 0.0, 8.0);
        Fixtures.vertices(x, 3, 210, 2.0, 2.0);
        due(check, x, 3, 0, 0, "10 0 0");
        due(check, x, 3, 3, 3, "60 0 0");
    }
}
