import java.util.NoSuchElementException;

/** Section "Terms": functions that are sampled, of a power, or stitched. */
public final class BoundaryFunctionsTest {
    public static void main(String[] args) {
        Check check = new Check("boundaries, functions");
        check.sentence("FUNCTIONS 1, 2, .. (24 at most)", BoundaryFunctionsTest::most);
        check.sentence("SAMPLED: a samples (2 .. 16, whole)", BoundaryFunctionsTest::sampleCounts);
        check.sentence("from b to c (b < c)", BoundaryFunctionsTest::sampledRanges);
        check.sentence("bytes, at first 0", BoundaryFunctionsTest::bytesAtFirst);
        check.sentence("With u = (CUT(t, b, c) - b) * (a - 1) / (c - b), and i its whole part",
                BoundaryFunctionsTest::wholeParts);
        check.sentence("if i is the last sample, that / 255.0", BoundaryFunctionsTest::lastSample);
        check.sentence("else, with s and s2 samples i and i + 1, s / 255.0 + (u - i) * (s2 - s) / 255.0",
                BoundaryFunctionsTest::nearlyLast);
        check.sentence("POWER: a + p * (b - a), p being 1.0, c times (0 .. 12, whole)",
                BoundaryFunctionsTest::powerTimes);
        check.sentence("multiplied by CUT(t, 0.0, 1.0)", BoundaryFunctionsTest::powerCuts);
        check.sentence("ERROR 2, when c is 0 and that is 0.0", BoundaryFunctionsTest::powerError);
        check.sentence("STITCHED: of functions a and b (numbers of such as there are)",
                BoundaryFunctionsTest::stitchedParts);
        check.sentence("with a bound c, 0.0 .. 1.0", BoundaryFunctionsTest::stitchedBounds);
        check.sentence("w being CUT(t, 0.0, 1.0)", BoundaryFunctionsTest::stitchedCuts);
        check.sentence("if w < c, the value of a at w / c; else of b, at (w - c) / (1.0 - c)",
                BoundaryFunctionsTest::stitchedAtBound);
        check.sentence("or 0.0 when c is 1.0", BoundaryFunctionsTest::stitchedBoundOne);
        check.end();
    }

    private static void most(Check check) {
        for (int kind = 0; kind <= 3; kind++) {
            ShadeRows x = new ShadeRows();
            x.function(1, 0.25, 0.25, 1.0, 0.0);
            for (int i = 2; i <= 24; i++) {
                check.same("function " + i + " of kind " + kind, any(x, kind), i);
            }
            check.same("a 25th of kind " + kind, any(x, kind), 0);
            check.same("and still", any(x, kind), 0);
            check.same("the first one is as it was", x.value(1, 0.5), 0.25);
            check.same("the last one is there", x.value(24, 0.0), kind == 1 ? 2.0 : kind == 2 ? 0.25 : 0.0);
            check.raises("the 25th is not", NoSuchElementException.class, () -> x.value(25, 0.0));
        }
    }

    /** A function whose numbers are right for every kind, where there is one already. */
    private static int any(ShadeRows x, int kind) {
        return kind == 2 ? x.function(2, 1.0, 1.0, 1.0, 0.0) : x.function(kind, 2.0, 0.0, 1.0, 0.0);
    }

    private static void sampleCounts(Check check) {
        double[] refused = {-2.0, 0.0, 1.0, Math.nextDown(2.0), Math.nextUp(2.0), 2.5, 15.5, Math.nextDown(16.0),
            Math.nextUp(16.0), 17.0, 4294967298.0, Double.NaN, Double.POSITIVE_INFINITY};
        ShadeRows x = new ShadeRows();
        for (double a : refused) {
            check.same(a + " samples", x.function(0, a, 0.0, 1.0, 0.0), 0);
        }
        for (int a = 2; a <= 16; a++) {
            int count = a;
            check.same(a + " samples", x.function(0, a, 0.0, 1.0, 0.0), a - 1);
            check.same("the last of " + a, x.sample(a - 1, a - 1, 255), 0);
            check.raises("one more than " + a, ArrayIndexOutOfBoundsException.class,
                    () -> x.sample(count - 1, count, 255));
            check.same("the end of " + a, x.value(a - 1, 1.0), 1.0);
        }
    }

    private static void sampledRanges(Check check) {
        double[][] refused = {{1.0, 1.0}, {1.0, 0.0}, {0.0, -0.0}, {-0.0, 0.0}, {Math.nextUp(1.0), 1.0},
            {1000000.0, -1000000.0}, {1000000.0, 1000000.0}};
        ShadeRows x = new ShadeRows();
        for (double[] r : refused) {
            check.same("from " + r[0] + " to " + r[1], x.function(0, 2.0, r[0], r[1], 0.0), 0);
        }
        check.same("a hair", x.function(0, 2.0, 1.0, Math.nextUp(1.0), 0.0), 1);
        x.sample(1, 1, 255);
        check.same("its begin", x.value(1, 1.0), 0.0);
        check.same("its end", x.value(1, Math.nextUp(1.0)), 1.0);
        check.same("the least width", x.function(0, 2.0, 0.0, Double.MIN_VALUE, 0.0), 2);
        x.sample(2, 1, 255);
        check.same("its begin", x.value(2, 0.0), 0.0);
        check.same("its end", x.value(2, Double.MIN_VALUE), 1.0);
        check.same("the greatest width", x.function(0, 2.0, -1000000.0, 1000000.0, 0.0), 3);
        x.sample(3, 1, 255);
        check.same("its begin", x.value(3, -1000000.0), 0.0);
        check.same("its middle", x.value(3, 0.0), 0.5);
        check.same("its end", x.value(3, 1000000.0), 1.0);
    }

    private static void bytesAtFirst(Check check) {
        ShadeRows x = new ShadeRows();
        x.function(0, 16.0, 0.0, 1.0, 0.0);
        check.same("at its begin", x.value(1, 0.0), 0.0);
        check.same("within", x.value(1, 0.4), 0.0);
        check.same("at its end", x.value(1, 1.0), 0.0);
        for (int i = 0; i < 16; i++) {
            check.same("sample " + i, x.sample(1, i, 200), 0);
        }
        x.function(0, 16.0, 0.0, 1.0, 0.0);
        check.same("of the next one", x.sample(2, 3, 1), 0);
    }

    /** Of 5 samples from 0.0 to 4.0 u is t. */
    private static void wholeParts(Check check) {
        ShadeRows x = new ShadeRows();
        x.function(0, 5.0, 0.0, 4.0, 0.0);
        int[] samples = {255, 0, 255, 51, 102};
        for (int i = 0; i < 5; i++) {
            x.sample(1, i, samples[i]);
        }
        for (int i = 0; i < 5; i++) {
            check.same("at sample " + i, x.value(1, i), samples[i] / 255.0);
        }
        double under = Math.nextDown(1.0);
        check.same("a hair before sample 1", x.value(1, under), 255 / 255.0 + (under - 0) * -255 / 255.0);
        double over = Math.nextUp(1.0);
        check.same("a hair behind sample 1", x.value(1, over), 0 / 255.0 + (over - 1) * 255 / 255.0);
        check.same("half behind sample 3", x.value(1, 3.5), 51 / 255.0 + 0.5 * 51 / 255.0);
    }

    /** Of 4 samples from 0.0 to 0.1 u at the end is 3.0000000000000004: its whole part is the last one. */
    private static void lastSample(Check check) {
        ShadeRows x = new ShadeRows();
        for (double end : new double[] {1.0, 0.1}) {
            int n = x.function(0, 4.0, 0.0, end, 0.0);
            x.sample(n, 2, 10);
            x.sample(n, 3, 77);
            check.same("at its end, " + end, x.value(n, end), 77 / 255.0);
            check.same("above, " + end, x.value(n, 5.0), 77 / 255.0);
        }
        x.function(0, 2.0, -3.0, -1.0, 0.0);
        x.sample(3, 0, 200);
        x.sample(3, 1, 255);
        check.same("of two samples", x.value(3, -1.0), 1.0);
    }

    /** Of 4 samples from 0.0 to 0.7 u at the end is 2.9999999999999996: its whole part is not the last one. */
    private static void nearlyLast(Check check) {
        ShadeRows x = new ShadeRows();
        x.function(0, 4.0, 0.0, 0.7, 0.0);
        x.sample(1, 3, 255);
        check.same("at its end", x.value(1, 0.7), 0.9999999999999996);
        x.function(0, 4.0, 0.0, 3.0, 0.0);
        x.sample(2, 2, 255);
        x.sample(2, 3, 51);
        double u = Math.nextDown(3.0);
        check.same("a hair before the end", x.value(2, u), 255 / 255.0 + (u - 2) * -204 / 255.0);
    }

    private static void powerTimes(Check check) {
        double[] refused = {-1.0, -Double.MIN_VALUE, Double.MIN_VALUE, 0.5, Math.nextDown(1.0), 11.5,
            Math.nextUp(12.0), 13.0, 4294967297.0, Double.NaN, Double.NEGATIVE_INFINITY};
        ShadeRows x = new ShadeRows();
        for (double c : refused) {
            check.same(c + " times", x.function(1, 0.0, 1.0, c, 0.0), 0);
        }
        double due = 1.0;
        for (int c = 0; c <= 12; c++) {
            check.same(c + " times", x.function(1, 0.0, 1.0, c, 0.0), c + 1);
            check.same("0.5, " + c + " times", x.value(c + 1, 0.5), due);
            due = due / 2.0;
        }
        check.same("-0.0 times", x.function(1, 3.0, 5.0, -0.0, 0.0), 14);
        check.same("0.5, -0.0 times", x.value(14, 0.5), 5.0);
    }

    private static void powerCuts(Check check) {
        ShadeRows x = new ShadeRows();
        x.function(1, 3.0, 7.0, 2.0, 0.0);
        double[] begins = {-1000000.0, -1.0, -Double.MIN_VALUE, 0.0};
        for (double t : begins) {
            check.same("at " + t, x.value(1, t), 3.0);
        }
        double[] ends = {1.0, Math.nextUp(1.0), 2.0, 1000000.0};
        for (double t : ends) {
            check.same("at " + t, x.value(1, t), 7.0);
        }
        check.same("at 0.5", x.value(1, 0.5), 4.0);
    }

    private static void powerError(Check check) {
        ShadeRows x = new ShadeRows();
        x.function(1, 3.0, 7.0, 0.0, 0.0);
        x.function(1, 3.0, 7.0, 1.0, 0.0);
        for (double t : new double[] {0.0, -0.0, -Double.MIN_VALUE, -1000000.0}) {
            check.same("no times at " + t, x.value(1, t), 7.0);
            check.same("its error", x.error(), 2);
            check.same("once at " + t, x.value(2, t), 3.0);
            check.same("its error", x.error(), 0);
        }
        for (double t : new double[] {Double.MIN_VALUE, 1.0, 1000000.0}) {
            check.same("no times at " + t, x.value(1, t), 7.0);
            check.same("its error", x.error(), 0);
        }
    }

    private static void stitchedParts(Check check) {
        ShadeRows x = new ShadeRows();
        check.same("of none", x.function(2, 1.0, 1.0, 0.5, 0.0), 0);
        x.function(1, 1.0, 1.0, 1.0, 0.0);
        x.function(1, 2.0, 2.0, 1.0, 0.0);
        double[] refused = {0.0, -1.0, 3.0, Math.nextDown(1.0), 1.5, Math.nextUp(2.0), 25.0, 4294967297.0, Double.NaN,
            Double.POSITIVE_INFINITY};
        for (double n : refused) {
            check.same("of " + n + " and 1", x.function(2, n, 1.0, 0.5, 0.0), 0);
            check.same("of 1 and " + n, x.function(2, 1.0, n, 0.5, 0.0), 0);
        }
        check.same("of the first and the last", x.function(2, 1.0, 2.0, 0.5, 0.0), 3);
        check.same("its first", x.value(3, 0.0), 1.0);
        check.same("its last", x.value(3, 1.0), 2.0);
        check.same("of one twice, and stitched itself", x.function(2, 3.0, 3.0, 0.5, 0.0), 4);
        check.same("of itself", x.function(2, 5.0, 1.0, 0.5, 0.0), 0);
    }

    private static void stitchedBounds(Check check) {
        ShadeRows x = new ShadeRows();
        x.function(1, 0.0, 1.0, 1.0, 0.0);
        double[] refused = {-1.0, -Double.MIN_VALUE, Math.nextUp(1.0), 2.0, Double.NaN, Double.POSITIVE_INFINITY,
            Double.NEGATIVE_INFINITY};
        for (double c : refused) {
            check.same("bound " + c, x.function(2, 1.0, 1.0, c, 0.0), 0);
        }
        double[] right = {0.0, -0.0, Double.MIN_VALUE, 0.5, Math.nextDown(1.0), 1.0};
        for (int i = 0; i < right.length; i++) {
            check.same("bound " + right[i], x.function(2, 1.0, 1.0, right[i], 0.0), i + 2);
        }
    }

    /** A text without steps shows what it is given. */
    private static void stitchedCuts(Check check) {
        ShadeRows x = new ShadeRows();
        Fixtures.text(x);
        x.function(2, 1.0, 1.0, 0.5, 0.0);
        for (double t : new double[] {-1000000.0, -Double.MIN_VALUE, 0.0}) {
            check.same("at " + t, x.value(2, t), 0.0);
        }
        for (double t : new double[] {1.0, Math.nextUp(1.0), 1000000.0}) {
            check.same("at " + t, x.value(2, t), 1.0);
        }
    }

    private static void stitchedAtBound(Check check) {
        ShadeRows x = new ShadeRows();
        Fixtures.text(x);
        Fixtures.text(x, 0, 10.0, 1, 0.0);
        x.function(2, 1.0, 2.0, 0.25, 0.0);
        check.same("at 0.0", x.value(3, 0.0), 0.0);
        check.same("a hair below the bound", x.value(3, Math.nextDown(0.25)), Math.nextDown(0.25) / 0.25);
        check.same("at the bound", x.value(3, 0.25), 10.0);
        check.same("between", x.value(3, 0.625), 10.5);
        check.same("at 1.0", x.value(3, 1.0), 11.0);
        x.function(2, 1.0, 2.0, 0.0, 0.0);
        check.same("bound 0.0: below", x.value(4, -1.0), 10.0);
        check.same("bound 0.0: at it", x.value(4, 0.0), 10.0);
        check.same("bound 0.0: above", x.value(4, 0.5), 10.5);
        x.function(2, 1.0, 2.0, Double.MIN_VALUE, 0.0);
        check.same("the least bound: below", x.value(5, 0.0), 0.0);
        check.same("the least bound: at it", x.value(5, Double.MIN_VALUE), 10.0);
    }

    private static void stitchedBoundOne(Check check) {
        ShadeRows x = new ShadeRows();
        Fixtures.text(x);
        Fixtures.text(x, 0, 10.0, 1, 0.0);
        x.function(2, 1.0, 2.0, 1.0, 0.0);
        check.same("below it", x.value(3, 0.5), 0.5);
        check.same("a hair below it", x.value(3, Math.nextDown(1.0)), Math.nextDown(1.0));
        check.same("at it", x.value(3, 1.0), 10.0);
        check.same("above it", x.value(3, 1000000.0), 10.0);
        x.function(2, 1.0, 2.0, Math.nextDown(1.0), 0.0);
        check.same("a hair below 1.0: at it", x.value(4, Math.nextDown(1.0)), 10.0);
        check.same("a hair below 1.0: at 1.0", x.value(4, 1.0), 11.0);
    }
}
