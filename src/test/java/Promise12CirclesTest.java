public final class Promise12CirclesTest {
    private static final String NO = "-1 -1 -1";
    private static final String BEGIN = "0 255 0";
    private static final String END = "255 0 255";

    public static void main(String[] args) {
        Check check = new Check("promise 12, circles");
        oneMiddle(check);
        sameRadii(check);
        cone(check);
        touching(check);
        nearlyTheSame(check);
        aslant(check);
        top(check);
        check.end();
    }

    private static ShadeRows circles(double... v) {
        ShadeRows x = Fixtures.withFunctions();
        x.shading(3, v[0], v[1], v[2], v[3], v[4], v[5]);
        return x;
    }

    private static void oneMiddle(Check check) {
        ShadeRows x = circles(5.5, 5.5, 1.0, 5.5, 5.5, 5.0);
        due(check, x, 5, 5, NO);
        due(check, x, 6, 5, BEGIN);
        due(check, x, 7, 5, "64 191 16");
        due(check, x, 5, 8, "128 128 64");
        due(check, x, 1, 5, "191 64 143");
        due(check, x, 10, 5, END);
        due(check, x, 11, 5, NO);
        x.extend(1, true, true);
        due(check, x, 5, 5, BEGIN);
        due(check, x, 11, 5, END);
    }

    /** Without dr; of two that paint the greater one counts, and at its end the other one. */
    private static void sameRadii(Check check) {
        ShadeRows x = circles(0.0, 0.5, 2.0, 10.0, 0.5, 2.0);
        due(check, x, -3, 0, NO);
        due(check, x, -2, 0, "13 242 1");
        due(check, x, 0, 0, "64 191 16");
        due(check, x, 0, 1, "57 198 13");
        due(check, x, 5, 0, "191 64 143");
        due(check, x, 5, 1, "184 71 133");
        due(check, x, 5, 2, "140 115 77");
        due(check, x, 5, 3, NO);
        due(check, x, 8, 0, "166 89 108");
        due(check, x, 11, 0, "242 13 230");
        due(check, x, 12, 0, NO);
        x.extend(1, true, true);
        due(check, x, -3, 0, BEGIN);
        due(check, x, 8, 0, END);
        due(check, x, 12, 0, END);
        due(check, x, 5, 3, NO);
        x.extend(1, true, false);
        due(check, x, -3, 0, BEGIN);
        due(check, x, 8, 0, "166 89 108");
    }

    /** Behind its top, at x of 8.0, the radius would be below 0.0: nothing counts there, however it is extended. */
    private static void cone(Check check) {
        ShadeRows x = circles(0.0, 0.5, 3.0, 8.0, 0.5, 0.0);
        due(check, x, -4, 0, NO);
        due(check, x, 0, 0, "81 174 26");
        due(check, x, 4, 0, "174 81 119");
        due(check, x, 7, 0, "243 12 232");
        due(check, x, 8, 0, NO);
        due(check, x, 2, 2, "85 170 28");
        x.extend(1, true, true);
        due(check, x, -20, 0, BEGIN);
        due(check, x, -20, 8, BEGIN);
        due(check, x, -4, 0, BEGIN);
        due(check, x, 8, 0, NO);
        due(check, x, 9, 8, NO);
    }

    /** A is 0.0. */
    private static void touching(Check check) {
        ShadeRows x = circles(0.0, 0.5, 0.0, 4.0, 0.5, 4.0);
        due(check, x, -2, 0, NO);
        due(check, x, 0, 0, "16 239 1");
        due(check, x, 3, 0, "112 143 49");
        due(check, x, 3, 3, "194 61 147");
        due(check, x, 7, 0, "239 16 224");
        due(check, x, 8, 0, NO);
        x.extend(1, true, true);
        due(check, x, 8, 0, END);
        due(check, x, -2, 0, NO);
        ShadeRows wider = circles(1.0, 0.0, 1.0, 4.0, 0.0, 4.0);
        due(check, wider, 0, 0, NO);
        wider.extend(1, true, false);
        due(check, wider, 0, 0, BEGIN);
        due(check, wider, -2, 0, NO);
        ShadeRows noB = circles(0.5, 0.5, 0.0, 4.5, 0.5, 4.0);
        noB.extend(1, true, true);
        due(check, noB, 0, 0, NO);
        due(check, noB, 0, 5, NO);
        due(check, noB, 1, 0, "32 223 4");
    }

    /** t may be endless here: it is still above 1.0, or below 0.0. */
    private static void nearlyTheSame(Check check) {
        ShadeRows x = circles(0.0, 0.0, 2.0, Double.MIN_VALUE, 0.0, 2.0);
        due(check, x, 3, 0, NO);
        x.extend(1, false, true);
        due(check, x, 3, 0, END);
        due(check, x, -4, 0, NO);
        x.extend(1, true, false);
        due(check, x, 3, 0, NO);
        due(check, x, -4, 0, BEGIN);
        ShadeRows y = circles(0.0, 0.0, 0.0, 0.0, 0.0, Double.MIN_VALUE);
        y.extend(1, true, true);
        due(check, y, 3, 0, NO);
        ShadeRows z = circles(0.0, 0.5, 0.0, 1.0e-161, 0.5, 0.0);
        z.extend(1, true, true);
        due(check, z, 0, 0, END);
        z.extend(1, true, false);
        due(check, z, 0, 0, BEGIN);
    }

    private static void aslant(Check check) {
        ShadeRows x = circles(1.0, 2.0, 1.5, 7.0, 10.0, 3.0);
        due(check, x, 0, 1, "24 231 2");
        due(check, x, 1, 2, "66 189 17");
        due(check, x, 4, 6, "216 39 183");
        due(check, x, 3, 8, "224 31 197");
        due(check, x, 6, 4, NO);
        due(check, x, 7, 10, "204 51 163");
        due(check, x, 8, 11, "235 20 217");
        due(check, x, 9, 11, "253 2 251");
        due(check, x, -2, 2, NO);
        due(check, x, 0, 6, NO);
        due(check, x, 11, 6, NO);
        x.extend(1, true, true);
        due(check, x, -2, -1, BEGIN);
        due(check, x, 0, 0, BEGIN);
        due(check, x, 12, 16, END);
        due(check, x, 4, 6, "216 39 183");
        due(check, x, 0, 6, NO);
    }

    /** The radius is 0.0 at the very top, which is not below 0.0. */
    private static void top(Check check) {
        ShadeRows x = circles(0.5, 0.5, 400.0, 800.5, 0.5, 0.0);
        due(check, x, 800, 0, END);
        due(check, x, 801, 0, NO);
    }

    private static void due(Check check, ShadeRows x, int px, int py, String due) {
        check.same("point(" + px + ", " + py + ")", Fixtures.bands(x, 1, px, py), due);
    }
}
