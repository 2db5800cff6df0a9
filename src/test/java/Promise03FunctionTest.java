public final class Promise03FunctionTest {
    private static final double NAN = Double.NaN;

    public static void main(String[] args) {
        Check check = new Check("promise 3");
        kinds(check);
        sampled(check);
        power(check);
        stitched(check);
        textDepths(check);
        textsGo(check);
        limit(check);
        check.end();
    }

    private static void kinds(Check check) {
        ShadeRows x = new ShadeRows();
        check.same("kind -1", x.function(-1, 2.0, 0.0, 1.0, 0.0), 0);
        check.same("kind 4", x.function(4, 2.0, 0.0, 1.0, 0.0), 0);
        check.same("kind, least int", x.function(Integer.MIN_VALUE, 2.0, 0.0, 1.0, 0.0), 0);
        check.same("kind 0", x.function(0, 2.0, 0.0, 1.0, NAN), 1);
        check.same("kind 1", x.function(1, 2.0, 0.0, 1.0, NAN), 2);
        check.same("kind 2", x.function(2, 2.0, 1.0, 1.0, NAN), 3);
        check.same("kind 3", x.function(3, NAN, NAN, 9.0e9, Double.POSITIVE_INFINITY), 4);
    }

    private static void sampled(Check check) {
        ShadeRows x = new ShadeRows();
        double[][] refused = {
            {1.0, 0.0, 1.0}, {17.0, 0.0, 1.0}, {2.5, 0.0, 1.0}, {NAN, 0.0, 1.0}, {-2.0, 0.0, 1.0}, {4.0e9, 0.0, 1.0},
            {2.0, 1.0, 1.0}, {2.0, 1.0, 0.0}, {2.0, NAN, 1.0}, {2.0, 0.0, NAN}, {2.0, 0.0, 1000000.5},
            {2.0, -1000000.5, 1.0}, {2.0, 0.0, -0.0}, {2.0, Double.NEGATIVE_INFINITY, Double.POSITIVE_INFINITY}};
        for (double[] r : refused) {
            check.same("sampled " + r[0] + " " + r[1] + " " + r[2], x.function(0, r[0], r[1], r[2], 0.0), 0);
        }
        check.same("2 samples, widest", x.function(0, 2.0, -1000000.0, 1000000.0, 0.0), 1);
        check.same("16 samples, narrowest", x.function(0, 16.0, 0.0, Double.MIN_VALUE, 0.0), 2);
    }

    private static void power(Check check) {
        ShadeRows x = new ShadeRows();
        double[][] refused = {
            {0.0, 1.0, -1.0}, {0.0, 1.0, 13.0}, {0.0, 1.0, 0.5}, {0.0, 1.0, NAN}, {NAN, 1.0, 1.0}, {0.0, NAN, 1.0},
            {1000000.5, 1.0, 1.0}, {0.0, -1000000.5, 1.0}};
        for (double[] r : refused) {
            check.same("power " + r[0] + " " + r[1] + " " + r[2], x.function(1, r[0], r[1], r[2], 0.0), 0);
        }
        check.same("no times", x.function(1, 1000000.0, -1000000.0, 0.0, 0.0), 1);
        check.same("twelve times", x.function(1, 3.0, 3.0, 12.0, 0.0), 2);
        check.same("no times, from below", x.function(1, 3.0, 3.0, -0.0, 0.0), 3);
    }

    private static void stitched(Check check) {
        ShadeRows x = new ShadeRows();
        check.same("of none", x.function(2, 1.0, 1.0, 0.5, 0.0), 0);
        x.function(1, 0.0, 1.0, 1.0, 0.0);
        double[][] refused = {
            {0.0, 1.0, 0.5}, {1.0, 0.0, 0.5}, {2.0, 1.0, 0.5}, {1.0, 2.0, 0.5}, {1.5, 1.0, 0.5}, {1.0, 0.5, 0.5},
            {NAN, 1.0, 0.5}, {1.0, NAN, 0.5}, {1.0, 1.0, NAN}, {1.0, 1.0, -0.25}, {1.0, 1.0, Math.nextUp(1.0)},
            {-1.0, 1.0, 0.5}, {1.0, 4294967297.0, 0.5}};
        for (double[] r : refused) {
            check.same("stitched " + r[0] + " " + r[1] + " " + r[2], x.function(2, r[0], r[1], r[2], 0.0), 0);
        }
        check.same("bound 0.0", x.function(2, 1.0, 1.0, 0.0, 0.0), 2);
        check.same("bound 1.0", x.function(2, 2.0, 1.0, 1.0, 0.0), 3);
    }

    /** For each step: how many it must find; it is refused with one fewer. Then what it leaves, as a count. */
    private static void textDepths(Check check) {
        int[] takes = {0, 2, 2, 2, 2, 1, 1, 1, 2, 1, 2, 3, 1, 1};
        int[] leaves = {1, 1, 1, 1, 1, 1, 1, 2, 2, 0, 1, 1, 1, 1};
        for (int op = 0; op <= 13; op++) {
            for (int depth = 0; depth <= 8; depth++) {
                int behind = depth - takes[op] + leaves[op];
                boolean right = depth >= takes[op] && behind <= 8;
                ShadeRows x = new ShadeRows();
                fill(x, depth);
                x.text(op, 1.0);
                level(x, Math.max(behind, 0));
                check.same("op " + op + " on " + depth, x.function(3, 0.0, 0.0, 0.0, 0.0), right ? 1 : 0);
            }
        }
        ShadeRows x = new ShadeRows();
        x.text(0, 1.0);
        check.same("two are left", x.function(3, 0.0, 0.0, 0.0, 0.0), 0);
        x.text(9, 0.0);
        check.same("none is left", x.function(3, 0.0, 0.0, 0.0, 0.0), 0);
    }

    private static void fill(ShadeRows x, int depth) {
        if (depth == 0) {
            x.text(9, 0.0);
        }
        for (int i = 1; i < depth; i++) {
            x.text(0, 1.0);
        }
    }

    private static void level(ShadeRows x, int depth) {
        if (depth == 0) {
            x.text(0, 1.0);
        }
        for (int i = depth; i > 1; i--) {
            x.text(9, 0.0);
        }
    }

    private static void textsGo(Check check) {
        ShadeRows x = new ShadeRows();
        x.text(1, 0.0);
        check.same("a text that is not right", x.function(3, 0.0, 0.0, 0.0, 0.0), 0);
        check.same("is gone", x.text(5, 0.0), 1);
        check.same("a text that is right", x.function(3, 0.0, 0.0, 0.0, 0.0), 1);
        check.same("is gone, too", x.text(6, 0.0), 1);
        check.same("the next text", x.function(3, 0.0, 0.0, 0.0, 0.0), 2);
        check.same("the first one stays what it was", x.value(1, -3.0), 3.0);
        check.same("the first one stays what it was, above", x.value(1, 3.0), -3.0);
        check.same("the next one", x.value(2, 3.0), 3.0);
    }

    private static void limit(Check check) {
        ShadeRows x = new ShadeRows();
        for (int i = 1; i <= 24; i++) {
            check.same("function " + i, x.function(1, i, i, 1.0, 0.0), i);
        }
        check.same("a 25th, sampled", x.function(0, 2.0, 0.0, 1.0, 0.0), 0);
        check.same("a 25th, power", x.function(1, 0.0, 0.0, 1.0, 0.0), 0);
        check.same("a 25th, stitched", x.function(2, 1.0, 1.0, 0.5, 0.0), 0);
        x.text(5, 0.0);
        check.same("a 25th, text", x.function(3, 0.0, 0.0, 0.0, 0.0), 0);
        check.same("whose steps are gone", x.text(5, 0.0), 1);
        check.same("the last one is there", x.value(24, 0.5), 24.0);
    }
}
