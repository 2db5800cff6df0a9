import java.util.NoSuchElementException;

/** The sentences of promises 1 to 6 themselves. */
public final class BoundaryPromises1To6Test {
    private static final int LEAST = Integer.MIN_VALUE;
    private static final int MOST = Integer.MAX_VALUE;
    private static final Class<NoSuchElementException> NONE = NoSuchElementException.class;
    private static final Class<ArrayIndexOutOfBoundsException> INDEX = ArrayIndexOutOfBoundsException.class;
    private static final Class<IllegalArgumentException> WRONG = IllegalArgumentException.class;

    public static void main(String[] args) {
        Check check = new Check("boundaries, promises 1 to 6");
        check.sentence("1. No functions", BoundaryPromises1To6Test::noFunctions);
        check.sentence("1. no steps", BoundaryPromises1To6Test::noSteps);
        check.sentence("1. no shadings", BoundaryPromises1To6Test::noShadings);
        check.sentence("2. A step is collected: how many there are", BoundaryPromises1To6Test::stepsCounted);
        check.sentence("2. 0 (and it is not) when op is not 0 .. 13", BoundaryPromises1To6Test::stepOps);
        check.sentence("2. v not good", BoundaryPromises1To6Test::stepNumbers);
        check.sentence("2. or there are 24", BoundaryPromises1To6Test::steps24);
        check.sentence("3. A function: its number; 0 when a number is not as it must be",
                BoundaryPromises1To6Test::functionNumbers);
        check.sentence("3. or there are 24", BoundaryPromises1To6Test::functions24);
        check.sentence("3. Numbers that its kind uses must be GOOD, too", BoundaryPromises1To6Test::functionGood);
        check.sentence("3. others do not matter", BoundaryPromises1To6Test::functionOthers);
        check.sentence("3. of kind 3 the steps are gone then, either way", BoundaryPromises1To6Test::stepsGone);
        check.sentence("4. Sample i of a sampled function becomes the byte v (its lowest eight bits)",
                BoundaryPromises1To6Test::lowestEight);
        check.sentence("4. what it was", BoundaryPromises1To6Test::whatItWas);
        check.sentence("4. NoSuchElementException (also of another kind)", BoundaryPromises1To6Test::noSampled);
        check.sentence("4. ArrayIndexOutOfBoundsException", BoundaryPromises1To6Test::noSample);
        check.sentence("5. NoSuchElementException", BoundaryPromises1To6Test::noValue);
        check.sentence("5. IllegalArgumentException when t is not good", BoundaryPromises1To6Test::valueGood);
        check.sentence("6. The ERROR of the latest value()", BoundaryPromises1To6Test::latestError);
        check.sentence("6. 0 at first", BoundaryPromises1To6Test::errorAtFirst);
        check.end();
    }

    private static void noFunctions(Check check) {
        ShadeRows x = new ShadeRows();
        for (int n = 0; n <= 25; n++) {
            int number = n;
            check.raises("value(" + n + ")", NONE, () -> x.value(number, 0.0));
            check.raises("sample(" + n + ")", NONE, () -> x.sample(number, 0, 0));
        }
        check.same("stitched of none", x.function(2, 1.0, 1.0, 0.5, 0.0), 0);
        check.same("a plane of none", x.shading(1, 0.0, 0.0, 0.0, 0.0, 0.0, 0.0), 0);
        check.same("the first one", x.function(1, 0.0, 1.0, 1.0, 0.0), 1);
        ShadeRows y = new ShadeRows();
        check.raises("value(1) of another object", NONE, () -> y.value(1, 0.0));
    }

    private static void noSteps(Check check) {
        ShadeRows x = new ShadeRows();
        check.same("the first one", x.text(5, 0.0), 1);
        ShadeRows y = new ShadeRows();
        check.same("a text of none", y.function(3, 0.0, 0.0, 0.0, 0.0), 1);
        check.same("is t", y.value(1, 3.5), 3.5);
    }

    private static void noShadings(Check check) {
        ShadeRows x = new ShadeRows();
        for (int n = 0; n <= 25; n++) {
            int number = n;
            check.raises("pieces(" + n + ")", NONE, () -> x.pieces(number));
            check.raises("point(" + n + ")", NONE, () -> x.point(number, 0, 0, 0));
        }
        check.same("the first one", Fixtures.mesh(x, 4, 0.0), 1);
        ShadeRows y = new ShadeRows();
        check.raises("pieces(1) of another object", NONE, () -> y.pieces(1));
    }

    private static void stepsCounted(Check check) {
        ShadeRows x = new ShadeRows();
        for (int i = 1; i <= 24; i++) {
            check.same("step " + i, x.text(i % 14, 0.0), i);
        }
        x.function(3, 0.0, 0.0, 0.0, 0.0);
        check.same("the first one behind a function", x.text(0, 0.0), 1);
    }

    private static void stepOps(Check check) {
        ShadeRows x = new ShadeRows();
        for (int op : new int[] {-1, 14, 15, 256, LEAST, MOST}) {
            check.same("op " + op, x.text(op, 0.0), 0);
        }
        for (int op = 0; op <= 13; op++) {
            check.same("op " + op, x.text(op, 0.0), op + 1);
        }
        ShadeRows y = new ShadeRows();
        check.same("a step", y.text(5, 0.0), 1);
        check.same("none", y.text(14, 0.0), 0);
        check.same("a second step", y.text(6, 0.0), 2);
        check.same("their text", y.function(3, 0.0, 0.0, 0.0, 0.0), 1);
        check.same("its value", y.value(1, 3.0), 3.0);
    }

    private static void stepNumbers(Check check) {
        for (int op = 0; op <= 13; op++) {
            ShadeRows x = new ShadeRows();
            for (double v : Fixtures.notGood()) {
                check.same("op " + op + " with " + v, x.text(op, v), 0);
            }
            check.same("op " + op + " with -1000000.0", x.text(op, -1000000.0), 1);
            check.same("op " + op + " with 1000000.0", x.text(op, 1000000.0), 2);
        }
        ShadeRows x = new ShadeRows();
        x.text(0, Double.NaN);
        check.same("a text of none", x.function(3, 0.0, 0.0, 0.0, 0.0), 1);
        check.same("its value", x.value(1, 3.0), 3.0);
    }

    /** 24 times another sign and no 25th time. */
    private static void steps24(Check check) {
        ShadeRows x = new ShadeRows();
        for (int i = 1; i <= 24; i++) {
            check.same("step " + i, x.text(5, 0.0), i);
        }
        check.same("a 25th", x.text(5, 0.0), 0);
        check.same("and still", x.text(0, 1.0), 0);
        check.same("their text", x.function(3, 0.0, 0.0, 0.0, 0.0), 1);
        check.same("its value", x.value(1, 3.0), 3.0);
        check.same("there is room again", x.text(5, 0.0), 1);
    }

    private static void functionNumbers(Check check) {
        ShadeRows x = new ShadeRows();
        for (int kind : new int[] {-1, 4, 5, 256, LEAST, MOST}) {
            check.same("kind " + kind, x.function(kind, 2.0, 0.0, 1.0, 0.0), 0);
        }
        check.same("one sample", x.function(0, 1.0, 0.0, 1.0, 0.0), 0);
        check.same("13 times", x.function(1, 0.0, 1.0, 13.0, 0.0), 0);
        check.same("stitched of none", x.function(2, 1.0, 1.0, 0.5, 0.0), 0);
        check.same("a text that is not right", Fixtures.text(x, 1, 0.0), 0);
        check.same("sampled", x.function(0, 2.0, 0.0, 1.0, 0.0), 1);
        check.same("of a power", x.function(1, 0.0, 1.0, 12.0, 0.0), 2);
        check.same("stitched", x.function(2, 1.0, 2.0, 0.5, 0.0), 3);
        check.same("a text", Fixtures.text(x, 5, 0.0), 4);
        check.raises("there is no fifth one", NONE, () -> x.value(5, 0.0));
    }

    private static void functions24(Check check) {
        ShadeRows x = new ShadeRows();
        for (int i = 1; i <= 24; i++) {
            check.same("function " + i, x.function(1, i, i, 1.0, 0.0), i);
        }
        check.same("a 25th, sampled", x.function(0, 2.0, 0.0, 1.0, 0.0), 0);
        check.same("a 25th, of a power", x.function(1, 0.0, 1.0, 1.0, 0.0), 0);
        check.same("a 25th, stitched", x.function(2, 1.0, 24.0, 0.5, 0.0), 0);
        check.same("a 25th, a text", Fixtures.text(x, 5, 0.0), 0);
        for (int i = 1; i <= 24; i++) {
            check.same("value " + i, x.value(i, 0.5), i);
        }
    }

    private static void functionGood(Check check) {
        ShadeRows x = new ShadeRows();
        x.function(1, 0.0, 1.0, 1.0, 0.0);
        for (double v : Fixtures.notGood()) {
            for (int kind = 0; kind <= 2; kind++) {
                for (int i = 0; i < 3; i++) {
                    double[] n = kind == 0 ? new double[] {2.0, 0.0, 1.0} : new double[] {1.0, 1.0, 1.0};
                    n[i] = v;
                    check.same("kind " + kind + " with number " + i + " " + v,
                            x.function(kind, n[0], n[1], n[2], 0.0), 0);
                }
            }
        }
        check.same("the widest", x.function(0, 2.0, -1000000.0, 1000000.0, 0.0), 2);
        check.same("from far to far", x.function(1, -1000000.0, 1000000.0, 1.0, 0.0), 3);
        check.same("its middle", x.value(3, 0.5), 0.0);
    }

    private static void functionOthers(Check check) {
        for (double v : Fixtures.notGood()) {
            ShadeRows x = new ShadeRows();
            check.same("sampled, d " + v, x.function(0, 2.0, 0.0, 1.0, v), 1);
            check.same("power, d " + v, x.function(1, 0.0, 1.0, 1.0, v), 2);
            check.same("stitched, d " + v, x.function(2, 1.0, 1.0, 1.0, v), 3);
            check.same("a text, all " + v, x.function(3, v, v, v, v), 4);
            check.same("its value", x.value(4, 0.5), 0.5);
        }
    }

    /** When it is right, when it is not, when there is no room; and not of other kinds. */
    private static void stepsGone(Check check) {
        ShadeRows x = new ShadeRows();
        x.text(5, 0.0);
        x.function(0, 2.0, 0.0, 1.0, 0.0);
        x.function(1, 0.0, 1.0, 1.0, 0.0);
        x.function(2, 1.0, 1.0, 0.5, 0.0);
        x.function(4, 0.0, 0.0, 0.0, 0.0);
        x.function(-1, 0.0, 0.0, 0.0, 0.0);
        x.function(1, 0.0, 1.0, 99.0, 0.0);
        check.same("other kinds leave them", x.text(6, 0.0), 2);
        check.same("right", x.function(3, 0.0, 0.0, 0.0, 0.0), 4);
        check.same("the steps are the function's own", x.value(4, 3.0), 3.0);
        check.same("gone", x.text(7, 0.0), 1);
        check.same("not right", x.function(3, 0.0, 0.0, 0.0, 0.0), 0);
        check.same("gone", x.text(5, 0.0), 1);
        for (int i = 5; i <= 24; i++) {
            x.function(1, 0.0, 1.0, 1.0, 0.0);
        }
        check.same("no room", x.function(3, 0.0, 0.0, 0.0, 0.0), 0);
        check.same("gone", x.text(5, 0.0), 1);
        check.same("the function keeps its own", x.value(4, -3.0), 3.0);
    }

    private static void lowestEight(Check check) {
        int[] given = {0, 1, 127, 128, 255, 256, 257, 511, 65535, 65536, -1, -128, -129, -255, -256, -257, MOST, LEAST};
        int[] bytes = {0, 1, 127, 128, 255, 0, 1, 255, 255, 0, 255, 128, 127, 1, 0, 255, 255, 0};
        ShadeRows x = new ShadeRows();
        x.function(0, 2.0, 0.0, 1.0, 0.0);
        for (int i = 0; i < given.length; i++) {
            x.sample(1, 1, given[i]);
            check.same("the value by " + given[i], x.value(1, 1.0), bytes[i] / 255.0);
            check.same("the sample by " + given[i], x.sample(1, 1, 0), bytes[i]);
        }
    }

    private static void whatItWas(Check check) {
        ShadeRows x = new ShadeRows();
        x.function(0, 16.0, 0.0, 1.0, 0.0);
        for (int i = 0; i < 16; i++) {
            check.same("at first, " + i, x.sample(1, i, 10 * i), 0);
        }
        for (int i = 0; i < 16; i++) {
            check.same("then, " + i, x.sample(1, i, 255), 10 * i);
        }
        check.same("at last", x.sample(1, 15, 255), 255);
    }

    private static void noSampled(Check check) {
        ShadeRows x = new ShadeRows();
        x.function(0, 2.0, 0.0, 1.0, 0.0);
        x.function(1, 0.0, 1.0, 1.0, 0.0);
        x.function(2, 1.0, 1.0, 0.5, 0.0);
        x.function(3, 0.0, 0.0, 0.0, 0.0);
        check.same("of a sampled function", x.sample(1, 1, 5), 0);
        for (int n = 2; n <= 4; n++) {
            int number = n;
            check.raises("of kind " + (n - 1), NONE, () -> x.sample(number, 1, 5));
        }
        for (int n : Fixtures.noNumbers(4)) {
            check.raises("of function " + n, NONE, () -> x.sample(n, 1, 5));
        }
    }

    private static void noSample(Check check) {
        ShadeRows x = new ShadeRows();
        for (int count = 2; count <= 16; count++) {
            int n = x.function(0, count, 0.0, 1.0, 0.0);
            check.same("the first of " + count, x.sample(n, 0, 5), 0);
            check.same("the last of " + count, x.sample(n, count - 1, 5), 0);
            for (int i : new int[] {-1, count, count + 1, LEAST, MOST}) {
                check.raises("sample " + i + " of " + count, INDEX, () -> x.sample(n, i, 5));
            }
        }
    }

    private static void noValue(Check check) {
        ShadeRows x = Fixtures.withFunctions();
        for (int n : Fixtures.noNumbers(3)) {
            check.raises("value(" + n + ")", NONE, () -> x.value(n, 0.5));
            check.raises("value(" + n + ") of no number", NONE, () -> x.value(n, Double.NaN));
        }
        check.same("the first one", x.value(1, 0.5), 0.5);
        check.same("the last one", x.value(3, 0.5), 0.25);
    }

    private static void valueGood(Check check) {
        ShadeRows x = Fixtures.withFunctions();
        x.function(0, 2.0, 0.0, 1.0, 0.0);
        x.function(2, 1.0, 2.0, 0.5, 0.0);
        x.function(3, 0.0, 0.0, 0.0, 0.0);
        for (int n : new int[] {1, 4, 5, 6}) {
            for (double t : Fixtures.notGood()) {
                check.raises("value(" + n + ", " + t + ")", WRONG, () -> x.value(n, t));
            }
        }
        check.same("the least t", x.value(6, -1000000.0), -1000000.0);
        check.same("the greatest t", x.value(6, 1000000.0), 1000000.0);
    }

    /** Neither a call of another method nor a value() that throws is one. */
    private static void latestError(Check check) {
        ShadeRows x = new ShadeRows();
        x.function(1, 0.0, 1.0, 0.0, 0.0);
        x.function(1, 0.0, 1.0, 1.0, 0.0);
        Fixtures.text(x, 13, 0.0);
        x.shading(1, 0.0, 0.0, -1.0, 0.0, 0.0, 0.0);
        check.same("a point by functions with errors", x.point(1, 0, 0, 0), 255);
        check.same("is no value()", x.error(), 0);
        x.value(1, 0.0);
        check.same("of the first", x.error(), 2);
        check.same("asked again", x.error(), 2);
        x.point(1, 0, 0, 1);
        x.point(1, 0, 0, 2);
        check.raises("no function", NONE, () -> x.value(4, 0.0));
        check.raises("not good", WRONG, () -> x.value(2, Double.NaN));
        check.same("still of the first", x.error(), 2);
        x.value(3, -1.0);
        check.same("of the second", x.error(), 4);
        x.value(2, 0.5);
        check.same("of the third", x.error(), 0);
    }

    private static void errorAtFirst(Check check) {
        ShadeRows x = new ShadeRows();
        check.same("of a new object", x.error(), 0);
        x.function(1, 0.0, 1.0, 0.0, 0.0);
        check.same("before a value()", x.error(), 0);
        x.value(1, 0.0);
        check.same("of another object", new ShadeRows().error(), 0);
    }
}
