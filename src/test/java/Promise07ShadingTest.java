public final class Promise07ShadingTest {
    private static final double NAN = Double.NaN;
    private static final double FAR = 1000000.5;

    public static void main(String[] args) {
        Check check = new Check("promise 7");
        kinds(check);
        functionsNeeded(check);
        numbers(check);
        limit(check);
        check.end();
    }

    private static void kinds(Check check) {
        ShadeRows x = Fixtures.withFunctions();
        check.same("kind 0", x.shading(0, 2.0, 0.0, 1.0, 1.0, 2.0, 3.0), 0);
        check.same("kind 7", x.shading(7, 2.0, 0.0, 1.0, 1.0, 2.0, 3.0), 0);
        check.same("kind, least int", x.shading(Integer.MIN_VALUE, 2.0, 0.0, 1.0, 1.0, 2.0, 3.0), 0);
        for (int kind = 1; kind <= 6; kind++) {
            check.same("kind " + kind, x.shading(kind, 2.0, 0.0, 1.0, 1.0, 2.0, 3.0), kind);
        }
    }

    private static void functionsNeeded(Check check) {
        ShadeRows x = new ShadeRows();
        for (int functions = 0; functions <= 3; functions++) {
            for (int kind = 1; kind <= 3; kind++) {
                int due = functions < 3 ? 0 : kind;
                check.same("kind " + kind + " of " + functions, x.shading(kind, 2.0, 0.0, 1.0, 1.0, 2.0, 3.0), due);
            }
            x.function(1, 0.0, 1.0, 1.0, 0.0);
        }
        ShadeRows none = new ShadeRows();
        for (int kind = 4; kind <= 6; kind++) {
            check.same("kind " + kind + " without functions", Fixtures.mesh(none, kind, 2.0), kind - 3);
        }
    }

    private static void numbers(Check check) {
        used(check, 1, 3, 1.0, 2.0, 3.0, 4.0, 5.0, 6.0);
        used(check, 2, 4, 1.0, 2.0, 3.0, 4.0, 5.0, 6.0);
        used(check, 3, 6, 1.0, 2.0, 3.0, 4.0, 5.0, 6.0);
        used(check, 4, 0, 1.0, 2.0, 3.0, 4.0, 5.0, 6.0);
        used(check, 5, 1, 2.0, 2.0, 3.0, 4.0, 5.0, 6.0);
        used(check, 6, 1, 1.0, 2.0, 3.0, 4.0, 5.0, 6.0);
        made(check, 0, 2, 1.0, 2.0, 1.0, 2.0, 5.0, 6.0);
        made(check, 1, 2, 1.0, 2.0, 1.0, 3.0, 5.0, 6.0);
        made(check, 1, 2, 1.0, 2.0, 2.0, 2.0, 5.0, 6.0);
        made(check, 0, 2, 0.0, 0.0, -0.0, 0.0, 5.0, 6.0);
        made(check, 1, 2, 0.0, 0.0, Double.MIN_VALUE, 0.0, 5.0, 6.0);
        made(check, 0, 3, 1.0, 2.0, 3.0, 1.0, 2.0, 3.0);
        made(check, 1, 3, 1.0, 2.0, 3.0, 1.0, 2.0, 4.0);
        made(check, 1, 3, 1.0, 2.0, 3.0, 1.0, 3.0, 3.0);
        made(check, 1, 3, 1.0, 2.0, 3.0, 2.0, 2.0, 3.0);
        made(check, 0, 3, 1.0, 2.0, -0.5, 1.0, 2.0, 3.0);
        made(check, 0, 3, 1.0, 2.0, 3.0, 1.0, 2.0, -0.5);
        made(check, 1, 3, 1.0, 2.0, 0.0, 3.0, 2.0, 0.0);
        wholes(check, 5, 2, 8);
        wholes(check, 6, 1, 6);
    }

    /** The first numbers must be good, the others do not matter. */
    private static void used(Check check, int kind, int count, double... good) {
        for (double bad : new double[] {NAN, FAR, -FAR, Double.POSITIVE_INFINITY}) {
            for (int i = 0; i < 6; i++) {
                double[] v = good.clone();
                v[i] = bad;
                made(check, i < count ? 0 : 1, kind, v);
            }
        }
    }

    private static void made(Check check, int due, int kind, double... v) {
        ShadeRows x = Fixtures.withFunctions();
        String what = "kind " + kind + " of " + java.util.Arrays.toString(v);
        check.same(what, x.shading(kind, v[0], v[1], v[2], v[3], v[4], v[5]), due);
    }

    private static void wholes(Check check, int kind, int least, int most) {
        for (int a = -2; a <= 12; a++) {
            made(check, a >= least && a <= most ? 1 : 0, kind, a, 0.0, 0.0, 0.0, 0.0, 0.0);
            made(check, 0, kind, a + 0.5, 0.0, 0.0, 0.0, 0.0, 0.0);
        }
    }

    private static void limit(Check check) {
        ShadeRows x = Fixtures.withFunctions();
        for (int i = 1; i <= 24; i++) {
            check.same("shading " + i, x.shading(1 + i % 6, 2.0, 0.0, 1.0, 1.0, 2.0, 3.0), i);
        }
        for (int kind = 1; kind <= 6; kind++) {
            check.same("a 25th of kind " + kind, x.shading(kind, 2.0, 0.0, 1.0, 1.0, 2.0, 3.0), 0);
        }
        check.same("the last one is there", x.pieces(24), 0);
    }
}
