public final class Promise12TrianglesTest {
    private static final String NO = "-1 -1 -1";

    public static void main(String[] args) {
        Check check = new Check("promise 12, triangles");
        free(check);
        edges(check);
        thin(check);
        lattice(check);
        patches(check);
        bent(check);
        farBent(check);
        check.end();
    }

    private static void free(Check check) {
        ShadeRows x = new ShadeRows();
        Fixtures.mesh(x, 4, 0.0);
        due(check, x, 1, 0, 0, NO);
        x.vertex(1, 0.0, 0.0, 0x0000ff);
        x.vertex(1, 10.0, 0.0, 0x00ff00);
        due(check, x, 1, 0, 0, NO);
        x.vertex(1, 0.0, 10.0, 0xff0000);
        due(check, x, 1, 0, 0, "230 13 13");
        due(check, x, 1, 3, 2, "102 89 64");
        due(check, x, 1, 9, 0, "0 242 13");
        due(check, x, 1, 9, 1, NO);
        due(check, x, 1, -1, 0, NO);
        due(check, x, 1, 0, -1, NO);
        x.vertex(1, 0.0, 0.0, 0x030201);
        x.vertex(1, 2.0, 0.0, 0x030201);
        x.vertex(1, 0.0, 2.0, 0x030201);
        due(check, x, 1, 0, 0, "1 2 3");
        due(check, x, 1, 3, 2, "102 89 64");
        x.vertex(1, 0.0, 2.0, 0x060504);
        x.vertex(1, 2.0, 0.0, 0x060504);
        x.vertex(1, 0.0, 0.0, 0x060504);
        due(check, x, 1, 0, 0, "4 5 6");
        x.vertex(1, 0.0, 0.0, 0xffffff);
        x.vertex(1, 5.0, 5.0, 0xffffff);
        x.vertex(1, 9.0, 9.0, 0xffffff);
        due(check, x, 1, 0, 0, "4 5 6");
    }

    /** A middle that lies on an edge or at a corner is painted. */
    private static void edges(Check check) {
        ShadeRows x = new ShadeRows();
        Fixtures.mesh(x, 4, 0.0);
        x.vertex(1, 0.5, 0.5, 0x00000a);
        x.vertex(1, 8.5, 0.5, 0x000014);
        x.vertex(1, 0.5, 8.5, 0x00001e);
        due(check, x, 1, 0, 0, "10 0 0");
        due(check, x, 1, 8, 0, "20 0 0");
        due(check, x, 1, 0, 8, "30 0 0");
        due(check, x, 1, 4, 0, "15 0 0");
        due(check, x, 1, 0, 4, "20 0 0");
        due(check, x, 1, 4, 4, "25 0 0");
        due(check, x, 1, 5, 4, NO);
        due(check, x, 1, -1, 4, NO);
        due(check, x, 1, 4, -1, NO);
    }

    /** p and q may be endless here. */
    private static void thin(Check check) {
        ShadeRows x = new ShadeRows();
        Fixtures.mesh(x, 4, 0.0);
        double least = Double.MIN_VALUE;
        double[][] corners = {{least, 0.0}, {0.0, 1000000.0}, {0.0, 0.0}};
        int[][] orders = {{0, 1, 2}, {0, 2, 1}, {1, 0, 2}, {1, 2, 0}, {2, 0, 1}, {2, 1, 0}};
        for (int[] order : orders) {
            for (int i : order) {
                x.vertex(1, corners[i][0], corners[i][1], 0xffffff);
            }
        }
        for (int px = -3; px <= 3; px++) {
            for (int py = -3; py <= 3; py++) {
                due(check, x, 1, px, py, NO);
            }
        }
    }

    private static void lattice(Check check) {
        ShadeRows x = new ShadeRows();
        Fixtures.mesh(x, 5, 3.0);
        for (int i = 0; i < 7; i++) {
            x.vertex(1, 4.0 * (i % 3), 4.0 * (i / 3), 1234567 * i);
        }
        due(check, x, 1, 0, 0, "36 43 9");
        due(check, x, 1, 0, 2, "110 109 37");
        due(check, x, 1, 0, 3, "147 141 51");
        due(check, x, 1, 3, 2, "83 142 51");
        due(check, x, 1, 5, 0, "76 183 32");
        due(check, x, 1, 7, 2, "90 100 70");
        due(check, x, 1, 7, 3, "128 69 85");
        due(check, x, 1, 8, 0, NO);
        due(check, x, 1, 0, 4, NO);
        x.vertex(1, 4.0, 8.0, 0);
        due(check, x, 1, 0, 4, NO);
        x.vertex(1, 8.0, 8.0, 0);
        check.same("a third row", x.pieces(1), 8);
        check.same("is painted", x.point(1, 0, 4, 0) >= 0 ? 1 : 0, 1);
        lastOfLattice(check);
        folded(check);
    }

    /** The lower right is above the upper left's far edge, so that both triangles of the cell paint (3, 3). */
    private static void folded(Check check) {
        ShadeRows x = new ShadeRows();
        Fixtures.mesh(x, 5, 2.0);
        x.vertex(1, 0.0, 0.0, 10);
        x.vertex(1, 8.0, 0.0, 10);
        x.vertex(1, 0.0, 8.0, 10);
        x.vertex(1, 2.0, 2.0, 210);
        due(check, x, 1, 0, 0, "10 0 0");
        due(check, x, 1, 3, 3, "60 0 0");
    }

    /** All rows but one lie on each other, so that the order of the triangles shows. */
    private static void lastOfLattice(Check check) {
        ShadeRows x = new ShadeRows();
        Fixtures.mesh(x, 5, 2.0);
        int[] colours = {1, 1, 2, 2, 3, 3, 4, 4};
        for (int i = 0; i < 8; i++) {
            x.vertex(1, 8.0 * (i % 2), i / 2 % 2 == 0 ? 0.0 : 8.0, 10 * colours[i]);
        }
        due(check, x, 1, 1, 1, "32 0 0");
        due(check, x, 1, 6, 6, "38 0 0");
    }

    private static void patches(Check check) {
        ShadeRows x = new ShadeRows();
        int[] colours = {0x0000ff, 0x00ff00, 0xff0000, 0xffffff};
        for (double cuts : new double[] {1.0, 2.0, 6.0}) {
            Fixtures.colours(x, Fixtures.squarePatch(x, cuts), colours);
        }
        due(check, x, 1, 0, 0, "244 21 11");
        due(check, x, 1, 11, 0, "11 255 11");
        due(check, x, 1, 5, 5, "138 234 117");
        due(check, x, 1, 6, 6, "117 234 138");
        due(check, x, 2, 0, 11, "244 244 244");
        due(check, x, 2, 11, 11, "11 21 244");
        due(check, x, 2, 5, 5, "138 127 117");
        due(check, x, 2, 3, 8, "181 181 181");
        due(check, x, 3, 11, 0, "11 237 11");
        due(check, x, 3, 5, 5, "138 128 117");
        due(check, x, 3, 3, 8, "181 152 181");
        due(check, x, 3, 8, 3, "74 152 74");
        for (int i = 1; i <= 3; i++) {
            due(check, x, i, 12, 3, NO);
            due(check, x, i, -1, 3, NO);
            due(check, x, i, 3, 12, NO);
            due(check, x, i, 3, -1, NO);
        }
        int few = Fixtures.squarePatch(x, 2.0);
        Fixtures.colours(x, few, 255, 255, 255);
        due(check, x, few, 5, 5, NO);
        Fixtures.colours(x, few, 255, 0, 0);
        due(check, x, few, 5, 5, "255 0 0");
    }

    private static void bent(Check check) {
        ShadeRows x = new ShadeRows();
        int patch = Fixtures.squarePatch(x, 3.0);
        x.patch(patch, 1, 4.0, -6.0);
        x.patch(patch, 2, 8.0, -6.0);
        x.patch(patch, 4, 16.0, 5.0);
        x.patch(patch, 10, 3.0, 9.0);
        Fixtures.colours(x, patch, 0x102030, 0x405060, 0x708090, 0xa0b0c0, 0xffffff);
        due(check, x, patch, 0, 0, "59 43 27");
        due(check, x, patch, 5, -4, "73 57 41");
        due(check, x, patch, 6, -5, NO);
        due(check, x, patch, 11, 0, "99 83 67");
        due(check, x, patch, 11, 11, "144 128 112");
        due(check, x, patch, 0, 11, "187 171 155");
        due(check, x, patch, 5, 5, "128 112 96");
        due(check, x, patch, 8, 3, "117 101 85");
        due(check, x, patch, 12, 3, "110 94 78");
        due(check, x, patch, 13, 4, "113 97 81");
        due(check, x, patch, -1, 3, NO);
        due(check, x, patch, 1, 8, "146 130 114");
        due(check, x, patch, 0, 8, NO);
    }

    /** No point is at 0.0 here, and all are moved. */
    private static void farBent(Check check) {
        ShadeRows x = new ShadeRows();
        int patch = Fixtures.mesh(x, 6, 4.0);
        double[][] points = {
            {102.0, -51.0}, {107.5, -54.0}, {110.0, -45.25}, {117.0, -50.0}, {121.0, -44.5}, {113.0, -41.0},
            {118.0, -35.0}, {111.0, -31.0}, {106.25, -38.0}, {101.0, -34.0}, {97.0, -39.0}, {105.0, -46.0}};
        for (int i = 0; i < 12; i++) {
            x.patch(patch, i, points[i][0], points[i][1]);
        }
        Fixtures.colours(x, patch, 0x0a5aff, 0xc80f1e, 0x32ff50, 0xfa8c00);
        due(check, x, patch, 102, -51, "240 90 24");
        due(check, x, patch, 103, -50, "210 89 51");
        due(check, x, patch, 106, -47, "140 100 103");
        due(check, x, patch, 116, -50, "37 22 193");
        due(check, x, patch, 117, -47, "45 68 165");
        due(check, x, patch, 116, -36, "73 236 69");
        due(check, x, patch, 110, -43, "84 118 129");
        due(check, x, patch, 112, -39, "65 171 115");
        due(check, x, patch, 102, -37, "31 144 207");
        due(check, x, patch, 101, -40, "75 127 172");
        due(check, x, patch, 100, -42, NO);
        due(check, x, patch, 105, -34, NO);
        due(check, x, patch, 113, -34, NO);
        due(check, x, patch, 107, -52, NO);
        due(check, x, patch, 112, -47, "88 64 141");
    }

    private static void due(Check check, ShadeRows x, int shading, int px, int py, String due) {
        check.same("point(" + shading + ", " + px + ", " + py + ")", Fixtures.bands(x, shading, px, py), due);
    }
}
