import java.util.NoSuchElementException;

/** Section "Terms": shadings that are coloured by functions. */
public final class BoundaryShadingsTest {
    private static final String NO = Fixtures.NO;
    private static final String BEGIN = "0 255 0";
    private static final String END = "255 0 255";

    public static void main(String[] args) {
        Check check = new Check("boundaries, shadings");
        check.sentence("SHADINGS 1, 2, .. (24 at most)", BoundaryShadingsTest::most);
        check.sentence("by the three functions that were made last before the shading, the last one for band 2",
                BoundaryShadingsTest::lastThree);
        check.sentence("(int) (CUT(v, 0.0, 1.0) * 255.0 + 0.5)", BoundaryShadingsTest::tones);
        check.sentence("x and y are those of the point's middle: 0.5 more than its own",
                BoundaryShadingsTest::middles);
        check.sentence("PLANE: t is a * x + b * y + c", BoundaryShadingsTest::planes);
        check.sentence("LINE from (a, b) to (c, d), unlike", BoundaryShadingsTest::unlike);
        check.sentence("CIRCLES around (a, b) and (d, e) with radii c and f, not below 0.0",
                BoundaryShadingsTest::radii);
        check.sentence("not the same", BoundaryShadingsTest::notTheSame);
        check.sentence("If A is 0.0: t is C / (2.0 * B)", BoundaryShadingsTest::touching);
        check.sentence("none if B is 0.0", BoundaryShadingsTest::noB);
        check.sentence("with D = B * B - A * C, none if it is below 0.0", BoundaryShadingsTest::noD);
        check.sentence("the greater one, if it counts", BoundaryShadingsTest::greater);
        check.sentence("else the other one, if it counts", BoundaryShadingsTest::other);
        check.sentence("t counts, if c + t * dr is not below 0.0", BoundaryShadingsTest::radiusBelow);
        check.sentence("and t is painted (next)", BoundaryShadingsTest::countsPainted);
        check.sentence("t below 0.0 is PAINTED (as 0.0), if it is extended at its begin",
                BoundaryShadingsTest::begins);
        check.sentence("above 1.0 (as 1.0), if at its end", BoundaryShadingsTest::ends);
        check.sentence("0.0 .. 1.0 always", BoundaryShadingsTest::always);
        check.sentence("others not", BoundaryShadingsTest::others);
        check.sentence("(nor what is no number)", BoundaryShadingsTest::noNumber);
        check.end();
    }

    private static void due(Check check, ShadeRows x, int shading, int px, int py, String due) {
        check.same("point(" + shading + ", " + px + ", " + py + ")", Fixtures.bands(x, shading, px, py), due);
    }

    private static ShadeRows line(double a, double b, double c, double d) {
        ShadeRows x = Fixtures.withFunctions();
        x.shading(2, a, b, c, d, 0.0, 0.0);
        return x;
    }

    private static ShadeRows circles(double a, double b, double c, double d, double e, double f) {
        ShadeRows x = Fixtures.withFunctions();
        x.shading(3, a, b, c, d, e, f);
        return x;
    }

    private static void most(Check check) {
        for (int kind = 1; kind <= 6; kind++) {
            ShadeRows x = Fixtures.withFunctions();
            for (int i = 1; i <= 24; i++) {
                check.same("shading " + i + " of kind " + kind, x.shading(kind, 2.0, 0.0, 1.0, 1.0, 2.0, 3.0), i);
            }
            check.same("a 25th of kind " + kind, x.shading(kind, 2.0, 0.0, 1.0, 1.0, 2.0, 3.0), 0);
            check.same("and still", x.shading(kind, 2.0, 0.0, 1.0, 1.0, 2.0, 3.0), 0);
            check.same("the last one is there", x.pieces(24), 0);
            check.raises("the 25th is not", NoSuchElementException.class, () -> x.pieces(25));
        }
    }

    /** Of three, of four, of 24, and not of those that come later. */
    private static void lastThree(Check check) {
        ShadeRows x = new ShadeRows();
        for (int i = 1; i <= 24; i++) {
            x.function(1, i / 255.0, i / 255.0, 1.0, 0.0);
            x.shading(1, 0.0, 0.0, 0.0, 0.0, 0.0, 0.0);
        }
        due(check, x, 1, 0, 0, "1 2 3");
        due(check, x, 2, 0, 0, "2 3 4");
        due(check, x, 22, 0, 0, "22 23 24");
        check.same("one more", x.shading(2, 0.0, 0.0, 1.0, 1.0, 0.0, 0.0), 23);
        check.same("and one", x.shading(3, 0.0, 0.0, 1.0, 1.0, 0.0, 2.0), 24);
        x.extend(23, true, true);
        x.extend(24, true, true);
        due(check, x, 23, 5, 5, "22 23 24");
        due(check, x, 24, 5, 5, "22 23 24");
    }

    private static void tones(Check check) {
        double[] values = {-1000000.0, -0.001, 0.0, 0.499 / 255.0, 0.5 / 255.0, 0.4999, 0.5, 254.499 / 255.0,
            254.5 / 255.0, 1.0, 1.001, 1000000.0};
        int[] tones = {0, 0, 0, 0, 1, 127, 128, 254, 255, 255, 255, 255};
        for (int i = 0; i < values.length; i++) {
            ShadeRows x = new ShadeRows();
            for (int n = 0; n < 3; n++) {
                x.function(1, values[i], values[i], 1.0, 0.0);
            }
            x.shading(1, 0.0, 0.0, 0.0, 0.0, 0.0, 0.0);
            String t = String.valueOf(tones[i]);
            check.same("the value " + values[i], Fixtures.bands(x, 1, 0, 0), t + " " + t + " " + t);
        }
    }

    /** A line from the middle of one point to that of the next one, at 0, below 0 and as far as points go. */
    private static void middles(Check check) {
        for (int at : new int[] {-10000, -1, 0, 9999}) {
            ShadeRows x = line(at + 0.5, 0.0, at + 1.5, 0.0);
            due(check, x, 1, at, 7, BEGIN);
            due(check, x, 1, at + 1, 7, END);
            ShadeRows y = line(0.0, at + 0.5, 0.0, at + 1.5);
            due(check, y, 1, 7, at, BEGIN);
            due(check, y, 1, 7, at + 1, END);
        }
        ShadeRows x = line(0.5, 0.0, 1.5, 0.0);
        due(check, x, 1, -1, 7, NO);
        due(check, x, 1, 2, 7, NO);
    }

    /** Painted everywhere, and t is neither cut nor looked at: 1000000.0 * 10000.5 comes to a text as it is. */
    private static void planes(Check check) {
        ShadeRows x = Fixtures.withFunctions();
        x.shading(1, 1.0, 0.0, 0.0, 0.0, 0.0, 0.0);
        due(check, x, 1, -10000, 0, BEGIN);
        due(check, x, 1, 10000, 0, END);
        x.shading(1, 0.0, 0.0, 0.0, 0.0, 0.0, 0.0);
        due(check, x, 2, 10000, -10000, BEGIN);
        for (int i = 0; i < 3; i++) {
            Fixtures.text(x, 0, 1000000.0, 4, 0.0, 0, 10000.0, 2, 0.0);
        }
        x.shading(1, 1000000.0, 0.0, 0.0, 0.0, 0.0, 0.0);
        due(check, x, 3, 10000, 0, "128 128 128");
        for (int i = 0; i < 3; i++) {
            Fixtures.text(x, 0, 1000000.0, 4, 0.0, 0, -20001.5, 2, 0.0);
        }
        x.shading(1, -1000000.0, 1000000.0, -1000000.0, 0.0, 0.0, 0.0);
        due(check, x, 4, 10000, -10000, "128 128 128");
        due(check, x, 4, 10000, -9999, "255 255 255");
    }

    private static void unlike(Check check) {
        double[][] like = {{1.0, 2.0}, {0.0, 0.0}, {1000000.0, -1000000.0}};
        for (double[] p : like) {
            ShadeRows x = Fixtures.withFunctions();
            check.same("to itself", x.shading(2, p[0], p[1], p[0], p[1], 0.0, 0.0), 0);
            check.same("of another x", x.shading(2, p[0], p[1], Math.nextDown(p[0]), p[1], 0.0, 0.0), 1);
            check.same("of another y", x.shading(2, p[0], p[1], p[0], Math.nextUp(p[1]), 0.0, 0.0), 2);
            check.same("turned", x.shading(2, 1.0, 2.0, 2.0, 1.0, 0.0, 0.0), 3);
        }
        ShadeRows x = Fixtures.withFunctions();
        check.same("from 0.0 to -0.0", x.shading(2, 0.0, -0.0, -0.0, 0.0, 0.0, 0.0), 0);
    }

    private static void radii(Check check) {
        ShadeRows x = Fixtures.withFunctions();
        for (double r : new double[] {-Double.MIN_VALUE, -1.0, -1000000.0}) {
            check.same("the first one " + r, x.shading(3, 0.0, 0.0, r, 5.0, 5.0, 1.0), 0);
            check.same("the second one " + r, x.shading(3, 0.0, 0.0, 1.0, 5.0, 5.0, r), 0);
        }
        check.same("the first one 0.0", x.shading(3, 0.0, 0.0, 0.0, 5.0, 5.0, 1.0), 1);
        check.same("the second one 0.0", x.shading(3, 0.0, 0.0, 1.0, 5.0, 5.0, 0.0), 2);
        check.same("both 0.0", x.shading(3, 0.0, 0.0, 0.0, 5.0, 5.0, 0.0), 3);
        check.same("both -0.0", x.shading(3, 0.0, 0.0, -0.0, 5.0, 5.0, -0.0), 4);
        check.same("middles below 0.0", x.shading(3, -1.0, -1.0, 0.0, -5.0, -5.0, 0.0), 5);
        check.same("the greatest", x.shading(3, 0.0, 0.0, 1000000.0, 5.0, 5.0, 1000000.0), 6);
    }

    private static void notTheSame(Check check) {
        ShadeRows x = Fixtures.withFunctions();
        check.same("the same", x.shading(3, 1.0, 2.0, 3.0, 1.0, 2.0, 3.0), 0);
        check.same("the same point", x.shading(3, 0.0, 0.0, 0.0, 0.0, 0.0, 0.0), 0);
        check.same("the same, but for a sign", x.shading(3, 0.0, -0.0, -0.0, -0.0, 0.0, 0.0), 0);
        check.same("another x", x.shading(3, 1.0, 2.0, 3.0, Math.nextUp(1.0), 2.0, 3.0), 1);
        check.same("another y", x.shading(3, 1.0, 2.0, 3.0, 1.0, Math.nextUp(2.0), 3.0), 2);
        check.same("another radius", x.shading(3, 1.0, 2.0, 3.0, 1.0, 2.0, Math.nextUp(3.0)), 3);
    }

    /** A is 4.0 * 4.0 - 4.0 * 4.0. At (2, 0) B is 8.0 and C 4.0, so that t is 0.25. */
    private static void touching(Check check) {
        ShadeRows x = circles(0.5, 0.5, 0.0, 4.5, 0.5, 4.0);
        due(check, x, 1, 2, 0, "64 191 16");
        due(check, x, 1, 4, 0, "128 128 64");
        due(check, x, 1, 4, 4, END);
        due(check, x, 1, 8, 0, END);
        due(check, x, 1, 9, 0, NO);
        due(check, x, 1, -1, 0, NO);
    }

    private static void noB(Check check) {
        ShadeRows x = circles(0.5, 0.5, 0.0, 4.5, 0.5, 4.0);
        x.extend(1, true, true);
        due(check, x, 1, 0, 0, NO);
        due(check, x, 1, 0, 5, NO);
        due(check, x, 1, 0, -10000, NO);
        due(check, x, 1, 1, 0, "32 223 4");
        due(check, x, 1, 1, 5, END);
    }

    /** D is 0.0 where y is 2.0 from the line of the middles; t is a hair above 0.5 there, ROOT(0.0) not being 0.0. */
    private static void noD(Check check) {
        ShadeRows x = circles(0.5, 0.5, 2.0, 8.5, 0.5, 2.0);
        x.extend(1, true, true);
        due(check, x, 1, 4, 2, "128 127 64");
        due(check, x, 1, 4, -2, "128 127 64");
        due(check, x, 1, 4, 3, NO);
        due(check, x, 1, 4, -3, NO);
        ShadeRows y = circles(0.5, 0.5, 2.0 - 1.0e-12, 8.5, 0.5, 2.0 - 1.0e-12);
        y.extend(1, true, true);
        due(check, y, 1, 4, 2, NO);
    }

    /** At (4, 0) both count: 0.75 and 0.25; and of circles in each other A is below 0.0. */
    private static void greater(Check check) {
        ShadeRows x = circles(0.5, 0.5, 2.0, 8.5, 0.5, 2.0);
        due(check, x, 1, 4, 0, "191 64 143");
        x.extend(1, true, true);
        due(check, x, 1, 4, 0, "191 64 143");
        due(check, x, 1, 8, 0, END);
        due(check, x, 1, 0, 0, "64 191 16");
        ShadeRows y = circles(0.5, 0.5, 4.0, 0.5, 0.5, 12.0);
        y.extend(1, true, true);
        due(check, y, 1, 8, 0, "128 128 64");
        due(check, y, 1, 0, 0, BEGIN);
    }

    /** At (8, 0) the greater one is 1.25, the other one 0.75. */
    private static void other(Check check) {
        ShadeRows x = circles(0.5, 0.5, 2.0, 8.5, 0.5, 2.0);
        due(check, x, 1, 8, 0, "191 64 143");
        x.extend(1, true, false);
        due(check, x, 1, 8, 0, "191 64 143");
        due(check, x, 1, 12, 0, NO);
        due(check, x, 1, -4, 0, BEGIN);
        x.extend(1, false, false);
        due(check, x, 1, 12, 0, NO);
        due(check, x, 1, -4, 0, NO);
        x.extend(1, false, true);
        due(check, x, 1, 12, 0, END);
        due(check, x, 1, -4, 0, NO);
    }

    /** At (4, 0) of y the greater one is 1.6, with a radius of -2.4, and the other one 0.0. */
    private static void radiusBelow(Check check) {
        ShadeRows x = circles(0.5, 0.5, 400.0, 800.5, 0.5, 0.0);
        x.extend(1, true, true);
        due(check, x, 1, 800, 0, END);
        due(check, x, 1, 801, 0, NO);
        ShadeRows y = circles(0.5, 0.5, 4.0, 1.5, 0.5, 0.0);
        due(check, y, 1, 4, 0, BEGIN);
        y.extend(1, true, true);
        due(check, y, 1, 4, 0, BEGIN);
        ShadeRows z = circles(800.5, 0.5, 0.0, 0.5, 0.5, 400.0);
        z.extend(1, true, true);
        due(check, z, 1, 801, 0, NO);
        due(check, z, 1, 800, 0, BEGIN);
        ShadeRows touching = circles(1.0, 0.0, 1.0, 4.0, 0.0, 4.0);
        touching.extend(1, true, true);
        due(check, touching, 1, 0, 0, BEGIN);
        due(check, touching, 1, -2, 0, NO);
    }

    /** At (12, 0) they are 1.75 and 1.25, at (-4, 0) -0.25 and -0.75; no radius is below 0.0. */
    private static void countsPainted(Check check) {
        ShadeRows x = circles(0.5, 0.5, 2.0, 8.5, 0.5, 2.0);
        due(check, x, 1, 12, 0, NO);
        due(check, x, 1, -4, 0, NO);
        x.extend(1, true, true);
        due(check, x, 1, 12, 0, END);
        due(check, x, 1, -4, 0, BEGIN);
    }

    /** Texts that do not cut: t / 4.0 + 0.5. */
    private static ShadeRows open(int kind) {
        ShadeRows x = new ShadeRows();
        for (int i = 0; i < 3; i++) {
            Fixtures.text(x, 0, 4.0, 4, 0.0, 0, 0.5, 1, 0.0);
        }
        if (kind == 2) {
            x.shading(2, 0.5, 0.5, 8.5, 0.5, 0.0, 0.0);
        } else {
            x.shading(3, 0.5, 0.5, 0.0, 8.5, 0.5, 0.0);
        }
        return x;
    }

    private static void begins(Check check) {
        for (int kind = 2; kind <= 3; kind++) {
            ShadeRows x = open(kind);
            due(check, x, 1, -1, 0, NO);
            x.extend(1, true, false);
            due(check, x, 1, -1, 0, "128 128 128");
            due(check, x, 1, -10000, 0, "128 128 128");
            due(check, x, 1, 10, 0, NO);
        }
        ShadeRows hair = line(Math.nextUp(0.5), 0.0, 8.5, 0.0);
        due(check, hair, 1, 0, 0, NO);
        hair.extend(1, false, true);
        due(check, hair, 1, 0, 0, NO);
        hair.extend(1, true, false);
        due(check, hair, 1, 0, 0, BEGIN);
    }

    private static void ends(Check check) {
        for (int kind = 2; kind <= 3; kind++) {
            ShadeRows x = open(kind);
            due(check, x, 1, 10, 0, NO);
            x.extend(1, false, true);
            due(check, x, 1, 10, 0, "191 191 191");
            due(check, x, 1, 10000, 0, "191 191 191");
            due(check, x, 1, -1, 0, NO);
        }
        ShadeRows hair = line(0.5, 0.0, Math.nextDown(8.5), 0.0);
        due(check, hair, 1, 8, 0, NO);
        hair.extend(1, true, false);
        due(check, hair, 1, 8, 0, NO);
        hair.extend(1, false, true);
        due(check, hair, 1, 8, 0, END);
    }

    /** t is 0.0 and 1.0 themselves at (4, 0) and (12, 0), or a hair within, however it is extended. */
    private static void always(Check check) {
        ShadeRows[] all = {line(4.5, 0.5, 12.5, 0.5), line(Math.nextDown(4.5), 0.5, Math.nextUp(12.5), 0.5),
            circles(0.5, 0.5, 4.0, 0.5, 0.5, 12.0)};
        for (ShadeRows x : all) {
            for (int how = 0; how < 4; how++) {
                x.extend(1, how % 2 == 1, how / 2 == 1);
                due(check, x, 1, 4, 0, BEGIN);
                due(check, x, 1, 6, 0, "64 191 16");
                due(check, x, 1, 12, 0, END);
            }
        }
    }

    private static void others(Check check) {
        ShadeRows[] all = {line(0.5, 0.5, 8.5, 0.5), circles(0.5, 0.5, 0.0, 8.5, 0.5, 0.0)};
        for (ShadeRows x : all) {
            due(check, x, 1, -1, 0, NO);
            due(check, x, 1, 9, 0, NO);
            x.extend(1, true, false);
            due(check, x, 1, 9, 0, NO);
            x.extend(1, false, true);
            due(check, x, 1, -1, 0, NO);
            x.extend(1, false, false);
            due(check, x, 1, -1, 0, NO);
            due(check, x, 1, 9, 0, NO);
        }
    }

    /** The line's squares are 0.0, and so is what is divided by them at (0, y): 0.5 times the least number. */
    private static void noNumber(Check check) {
        ShadeRows x = line(0.0, 0.0, Double.MIN_VALUE, 0.0);
        x.extend(1, true, true);
        due(check, x, 1, 0, 0, NO);
        due(check, x, 1, 0, 10000, NO);
        due(check, x, 1, -1, 0, NO);
        due(check, x, 1, 1, 0, END);
        due(check, x, 1, -2, 0, BEGIN);
        ShadeRows y = line(0.5, 0.5, 0.5, Math.nextUp(0.5));
        y.extend(1, true, true);
        due(check, y, 1, 0, 0, BEGIN);
    }
}
