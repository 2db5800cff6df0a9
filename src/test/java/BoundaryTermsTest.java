import java.util.NoSuchElementException;

/** Section "What it is", and of "Terms" what belongs to all: GOOD, ROOT, CUT, exceptions. */
public final class BoundaryTermsTest {
    public static void main(String[] args) {
        Check check = new Check("boundaries, terms");
        check.sentence("An object is used for at most 512 calls", BoundaryTermsTest::lastCall);
        check.sentence("A number is GOOD, if it is not below -1000000.0 nor above 1000000.0",
                BoundaryTermsTest::goodLimits);
        check.sentence("(and is one at all)", BoundaryTermsTest::goodIsNumber);
        check.sentence("ROOT(x), for x of 0.0 or more: r is x, or 1.0 if that is greater",
                BoundaryTermsTest::rootBegins);
        check.sentence("forty times r becomes (r + x / r) / 2.0", BoundaryTermsTest::rootTurns);
        check.sentence("CUT(t, p, q) is p where t is below p", BoundaryTermsTest::cutBelow);
        check.sentence("q where it is above q", BoundaryTermsTest::cutAbove);
        check.sentence("else t", BoundaryTermsTest::cutWithin);
        check.sentence("A call that throws changes nothing", BoundaryTermsTest::throwsChangeNothing);
        check.sentence("where several exceptions that a call names fit, it is the one that it names first",
                BoundaryTermsTest::firstNamed);
        check.sentence("NoSuchElementException: there is no such function", BoundaryTermsTest::noFunction);
        check.sentence("or shading", BoundaryTermsTest::noShading);
        check.end();
    }

    /** Three functions and a plane are four calls; each 127 times four more, the last call is the 512th. */
    private static void lastCall(Check check) {
        ShadeRows x = Fixtures.withFunctions();
        x.shading(1, 0.125, 0.0, 0.0, 0.0, 0.0, 0.0);
        for (int i = 1; i <= 127; i++) {
            check.same("value() in turn " + i, x.value(3, 0.5), 0.25);
            check.same("error() in turn " + i, x.error(), 0);
            check.same("text() in turn " + i, x.text(5, 0.0), i <= 24 ? i : 0);
            check.same("point() in turn " + i, x.point(1, i % 8, 0, 0), (int) ((i % 8 + 0.5) / 8.0 * 255.0 + 0.5));
        }
    }

    private static void goodLimits(Check check) {
        for (double v : Fixtures.good()) {
            eachNumber(check, v, true);
        }
        for (double v : new double[] {-1.0, 1.0}) {
            eachNumber(check, v * Math.nextUp(1000000.0), false);
            eachNumber(check, v * 1000001.0, false);
            eachNumber(check, v * Double.MAX_VALUE, false);
            eachNumber(check, v / 0.0, false);
        }
    }

    private static void goodIsNumber(Check check) {
        eachNumber(check, Double.NaN, false);
    }

    /** Every number of a call that asks for GOOD ones and has no narrower limits. */
    private static void eachNumber(Check check, double v, boolean good) {
        ShadeRows x = Fixtures.withAllKinds();
        check.same("text(0, " + v + ")", x.text(0, v), good ? 1 : 0);
        check.same("function(0, 2, " + v + ", c)", x.function(0, 2.0, v, 1000000.0, 0.0),
                good && v < 1000000.0 ? 4 : 0);
        ShadeRows y = Fixtures.withAllKinds();
        check.same("function(0, 2, b, " + v + ")", y.function(0, 2.0, -1000000.0, v, 0.0),
                good && v > -1000000.0 ? 4 : 0);
        check.same("function(1, " + v + ", b, 1)", new ShadeRows().function(1, v, 0.0, 1.0, 0.0), good ? 1 : 0);
        check.same("function(1, a, " + v + ", 1)", new ShadeRows().function(1, 0.0, v, 1.0, 0.0), good ? 1 : 0);
        if (good) {
            check.same("value(1, " + v + ")", x.value(1, v), v <= 0.0 ? 0.0 : v >= 1.0 ? 1.0 : v);
        } else {
            check.raises("value(1, " + v + ")", IllegalArgumentException.class, () -> x.value(1, v));
        }
        check.same("vertex(4, " + v + ", y)", x.vertex(4, v, 0.0, 0), good ? 1 : 0);
        check.same("vertex(5, x, " + v + ")", x.vertex(5, 0.0, v, 0), good ? 1 : 0);
        check.same("patch(6, 0, " + v + ", y)", x.patch(6, 0, v, 0.0), good ? 1 : 0);
        check.same("patch(6, 0, x, " + v + ")", x.patch(6, 0, 0.0, v), good ? 1 : 0);
        for (int kind = 1; kind <= 3; kind++) {
            for (int i = 0; i < kind + 2 + kind / 3; i++) {
                double[] n = {11.0, 12.0, 13.0, 14.0, 15.0, 16.0};
                n[i] = v;
                boolean due = good && !(kind == 3 && i % 3 == 2 && v < 0.0);
                ShadeRows z = Fixtures.withFunctions();
                check.same("shading(" + kind + ") with number " + i + " " + v,
                        z.shading(kind, n[0], n[1], n[2], n[3], n[4], n[5]), due ? 1 : 0);
            }
        }
    }

    /** x / x would be no number at 0.0. */
    private static void rootBegins(Check check) {
        ShadeRows x = new ShadeRows();
        Fixtures.text(x, 13, 0.0);
        check.same("ROOT(0.0)", x.value(1, 0.0), 1.0 / 1099511627776.0);
        check.same("its error", x.error(), 0);
        check.same("ROOT(-0.0)", x.value(1, -0.0), 1.0 / 1099511627776.0);
        check.same("its error", x.error(), 0);
        check.same("ROOT(1.0)", x.value(1, 1.0), 1.0);
        check.same("ROOT(0.25)", x.value(1, 0.25), 0.5);
        check.same("ROOT(4.0)", x.value(1, 4.0), 2.0);
        check.same("ROOT of the least number", x.value(1, Double.MIN_VALUE), 1.0 / 1099511627776.0);
    }

    /** Of 0.0 forty halves are left; of very little and of 1.0e12 what forty turns make of it. */
    private static void rootTurns(Check check) {
        ShadeRows x = new ShadeRows();
        Fixtures.text(x, 13, 0.0);
        Fixtures.text(x, 7, 0.0, 3, 0.0, 13, 0.0);
        check.same("ROOT(0.0), forty times doubled", x.value(1, 0.0) * 1099511627776.0, 1.0);
        for (double v : new double[] {1.0e-30, 1.0e-24, 1.0e-12, 0.1, 2.0, 3.0, 1000000.0}) {
            check.same("ROOT(" + v + ")", x.value(1, v), turns(v));
        }
        check.same("ROOT(1.0e12)", x.value(2, 1000000.0), 1000000.0);
        bigRoot(check);
    }

    /** D is 1.000001e24 here: forty turns do not come to its root, with which band 0 would be 85. */
    private static void bigRoot(Check check) {
        ShadeRows x = Fixtures.withFunctions();
        x.shading(3, -1000000.0, 0.0, 0.0, 1000000.0, 0.0, 1000000.0);
        check.same("band 0 by a root that is too great", x.point(1, 0, 0, 0), 64);
    }

    private static double turns(double x) {
        double r = Math.max(x, 1.0);
        for (int i = 0; i < 40; i++) {
            r = (r + x / r) / 2.0;
        }
        return r;
    }

    /** A text that cuts, a sampled function from 2.0 to 6.0, a power, and a stitched one of a text that does not. */
    private static ShadeRows cutting() {
        ShadeRows x = new ShadeRows();
        Fixtures.text(x, 12, 0.0);
        x.function(0, 2.0, 2.0, 6.0, 0.0);
        x.sample(2, 0, 51);
        x.sample(2, 1, 255);
        x.function(1, 4.0, 8.0, 1.0, 0.0);
        Fixtures.text(x);
        x.function(2, 4.0, 4.0, 0.0, 0.0);
        return x;
    }

    private static void cutBelow(Check check) {
        ShadeRows x = cutting();
        for (double t : new double[] {-1000000.0, -1.0, -Double.MIN_VALUE}) {
            check.same("step 12 at " + t, x.value(1, t), 0.0);
            check.same("sampled at " + t, x.value(2, t), 51 / 255.0);
            check.same("power at " + t, x.value(3, t), 4.0);
            check.same("stitched at " + t, x.value(5, t), 0.0);
        }
        check.same("sampled a hair below", x.value(2, Math.nextDown(2.0)), 51 / 255.0);
    }

    private static void cutAbove(Check check) {
        ShadeRows x = cutting();
        for (double t : new double[] {1000000.0, 7.0, Math.nextUp(6.0)}) {
            check.same("step 12 at " + t, x.value(1, t), 1.0);
            check.same("sampled at " + t, x.value(2, t), 1.0);
            check.same("power at " + t, x.value(3, t), 8.0);
            check.same("stitched at " + t, x.value(5, t), 1.0);
        }
        check.same("step 12 a hair above", x.value(1, Math.nextUp(1.0)), 1.0);
        check.same("power a hair above", x.value(3, Math.nextUp(1.0)), 8.0);
        check.same("stitched a hair above", x.value(5, Math.nextUp(1.0)), 1.0);
    }

    private static void cutWithin(Check check) {
        ShadeRows x = cutting();
        for (double t : new double[] {0.0, Double.MIN_VALUE, 0.5, Math.nextDown(1.0), 1.0}) {
            check.same("step 12 at " + t, x.value(1, t), t);
            check.same("power at " + t, x.value(3, t), 4.0 + 1.0 * t * (8.0 - 4.0));
            check.same("stitched at " + t, x.value(5, t), t);
        }
        check.same("sampled at its begin", x.value(2, 2.0), 51 / 255.0);
        check.same("sampled in its middle", x.value(2, 4.0), 51 / 255.0 + 0.5 * 204 / 255.0);
        check.same("sampled at its end", x.value(2, 6.0), 1.0);
    }

    /** The same calls on two objects, but one of them has been through every throw. */
    private static void throwsChangeNothing(Check check) {
        ShadeRows x = busy();
        ShadeRows y = busy();
        everyThrow(check, y);
        check.same("what can be seen", seen(y), seen(x));
        check.same("the next step", y.text(5, 0.0), x.text(5, 0.0));
        check.same("the next function", y.function(3, 0.0, 0.0, 0.0, 0.0), x.function(3, 0.0, 0.0, 0.0, 0.0));
        check.same("its value", y.value(5, 2.0), x.value(5, 2.0));
        check.same("the next shading", Fixtures.mesh(y, 4, 0.0), Fixtures.mesh(x, 4, 0.0));
        for (int n = 4; n <= 6; n++) {
            check.same("the next vertex of " + n, y.vertex(n, 0.0, 0.0, 0), x.vertex(n, 0.0, 0.0, 0));
        }
    }

    private static ShadeRows busy() {
        ShadeRows x = Fixtures.withAllKinds();
        x.function(0, 3.0, 0.0, 1.0, 0.0);
        x.sample(4, 1, 99);
        x.text(6, 0.0);
        x.extend(2, true, false);
        for (int i = 0; i < 4; i++) {
            x.vertex(4, 8.0 * (i % 2), 8.0 * (i / 2), 40 * i);
            x.vertex(5, 8.0 * (i % 2), 8.0 * (i / 2), 40 * i);
            x.vertex(6, 0.0, 0.0, 40 * i);
        }
        x.patch(6, 3, 9.0, 0.0);
        x.patch(6, 9, 0.0, 9.0);
        Fixtures.text(x, 0, 0.0);
        x.text(6, 0.0);
        x.function(1, 0.0, 1.0, 0.0, 0.0);
        x.value(5, 0.0);
        return x;
    }

    private static void everyThrow(Check check, ShadeRows x) {
        Class<NoSuchElementException> none = NoSuchElementException.class;
        Class<ArrayIndexOutOfBoundsException> index = ArrayIndexOutOfBoundsException.class;
        Class<IllegalArgumentException> wrong = IllegalArgumentException.class;
        check.raises("sample, none", none, () -> x.sample(6, 1, 7));
        check.raises("sample, another kind", none, () -> x.sample(1, 1, 7));
        check.raises("sample, index", index, () -> x.sample(4, 3, 7));
        check.raises("value, none", none, () -> x.value(6, 0.5));
        check.raises("value, not good", wrong, () -> x.value(1, Double.NaN));
        check.raises("vertex, none", none, () -> x.vertex(7, 1.0, 1.0, 7));
        check.raises("patch, none", none, () -> x.patch(7, 3, 1.0, 1.0));
        check.raises("patch, index", index, () -> x.patch(6, 12, 1.0, 1.0));
        check.raises("extend, none", none, () -> x.extend(7, true, true));
        check.raises("pieces, none", none, () -> x.pieces(7));
        check.raises("point, none", none, () -> x.point(7, 0, 0, 0));
        check.raises("point, band", index, () -> x.point(1, 0, 0, 3));
        check.raises("point, far", wrong, () -> x.point(1, 10001, 0, 0));
    }

    /** The error comes first: it is of the latest value(). */
    private static String seen(ShadeRows x) {
        StringBuilder seen = new StringBuilder().append(x.error());
        for (int n = 1; n <= 6; n++) {
            seen.append(" pieces ").append(x.pieces(n));
            for (int px = -4; px <= 8; px += 3) {
                seen.append(' ').append(x.point(n, px, 2, 0)).append(' ').append(x.point(n, px, 3, 1));
            }
        }
        for (int n = 1; n <= 5; n++) {
            seen.append(" value ").append(x.value(n, 0.25)).append(' ').append(x.value(n, 0.75));
        }
        return seen.append(" sample ").append(x.sample(4, 1, 99)).toString();
    }

    private static void firstNamed(Check check) {
        ShadeRows x = Fixtures.withAllKinds();
        x.function(0, 2.0, 0.0, 1.0, 0.0);
        Class<NoSuchElementException> none = NoSuchElementException.class;
        Class<ArrayIndexOutOfBoundsException> index = ArrayIndexOutOfBoundsException.class;
        check.raises("sample: function and index", none, () -> x.sample(5, 2, 0));
        check.raises("sample: kind and index", none, () -> x.sample(1, 2, 0));
        check.raises("value: function and t", none, () -> x.value(5, Double.NaN));
        check.raises("patch: shading and index", none, () -> x.patch(7, 12, 0.0, 0.0));
        check.raises("point: shading and band", none, () -> x.point(7, 0, 0, 3));
        check.raises("point: shading and x", none, () -> x.point(7, 10001, 0, 0));
        check.raises("point: shading, band and x", none, () -> x.point(7, 10001, 0, 3));
        for (int n = 1; n <= 6; n++) {
            int shading = n;
            check.raises("point: band and x, of " + n, index, () -> x.point(shading, 10001, 0, 3));
            check.raises("point: band and y, of " + n, index, () -> x.point(shading, 0, -10001, -1));
        }
    }

    private static void noFunction(Check check) {
        ShadeRows x = new ShadeRows();
        for (int count = 0; count <= 24; count++) {
            for (int n : Fixtures.noNumbers(count)) {
                check.raises("value(" + n + ") of " + count, NoSuchElementException.class, () -> x.value(n, 0.5));
                check.raises("sample(" + n + ") of " + count, NoSuchElementException.class, () -> x.sample(n, 0, 0));
            }
            x.function(0, 2.0, 0.0, 1.0, 0.0);
        }
        check.same("the 24th is there", x.value(24, 0.5), 0.0);
    }

    private static void noShading(Check check) {
        Class<NoSuchElementException> none = NoSuchElementException.class;
        for (int count : new int[] {0, 1, 23, 24}) {
            ShadeRows x = new ShadeRows();
            for (int i = 0; i < count; i++) {
                Fixtures.mesh(x, 6, 1.0);
            }
            for (int n : Fixtures.noNumbers(count)) {
                check.raises("vertex(" + n + ") of " + count, none, () -> x.vertex(n, 0.0, 0.0, 0));
                check.raises("patch(" + n + ") of " + count, none, () -> x.patch(n, 0, 0.0, 0.0));
                check.raises("extend(" + n + ") of " + count, none, () -> x.extend(n, true, true));
                check.raises("pieces(" + n + ") of " + count, none, () -> x.pieces(n));
                check.raises("point(" + n + ") of " + count, none, () -> x.point(n, 0, 0, 0));
            }
            if (count > 0) {
                check.same("the last of " + count, x.pieces(count), 0);
            }
        }
    }
}
