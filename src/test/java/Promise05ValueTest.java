import java.util.NoSuchElementException;

public final class Promise05ValueTest {
    public static void main(String[] args) {
        Check check = new Check("promise 5");
        sampled(check);
        power(check);
        stitched(check);
        longestChain(check);
        steps(check);
        ranges(check);
        wrongInputs(check);
        check.end();
    }

    private static void sampled(Check check) {
        ShadeRows x = new ShadeRows();
        x.function(0, 3.0, 2.0, 6.0, 0.0);
        x.sample(1, 0, 255);
        x.sample(1, 1, 0);
        x.sample(1, 2, 51);
        check.same("below", x.value(1, -1000000.0), 1.0);
        check.same("first sample", x.value(1, 2.0), 1.0);
        check.same("half of the first way", x.value(1, 3.0), 0.5);
        check.same("second sample", x.value(1, 4.0), 0.0);
        check.same("half of the second way", x.value(1, 5.0), 0.5 * 51.0 / 255.0);
        check.same("last sample", x.value(1, 6.0), 51.0 / 255.0);
        check.same("above", x.value(1, 1000000.0), 51.0 / 255.0);
        check.same("three quarters", x.value(1, 2.5), 255 / 255.0 + 0.25 * -255 / 255.0);
        x.function(0, 4.0, 0.0, 1.0, 0.0);
        for (int i = 0; i < 4; i++) {
            x.sample(2, i, 100 + 31 * i);
        }
        double u = (0.3 - 0.0) * 3.0 / (1.0 - 0.0);
        check.same("a step between", x.value(2, 0.3), 100 / 255.0 + (u - 0) * 31 / 255.0);
        u = (0.9 - 0.0) * 3.0 / (1.0 - 0.0);
        check.same("a step before the end", x.value(2, 0.9), 162 / 255.0 + (u - 2) * 31 / 255.0);
        x.function(0, 16.0, 0.0, Double.MIN_VALUE, 0.0);
        x.sample(3, 15, 255);
        check.same("the narrowest one, begin", x.value(3, 0.0), 0.0);
        check.same("the narrowest one, end", x.value(3, Double.MIN_VALUE), 1.0);
    }

    private static void power(Check check) {
        ShadeRows x = new ShadeRows();
        x.function(1, 2.0, 6.0, 2.0, 0.0);
        check.same("square at 0.5", x.value(1, 0.5), 3.0);
        check.same("square below", x.value(1, -0.5), 2.0);
        check.same("square above", x.value(1, 1.5), 6.0);
        x.function(1, 2.0, 6.0, 0.0, 0.0);
        check.same("no times", x.value(2, 0.5), 6.0);
        check.same("no times at 0.0", x.value(2, 0.0), 6.0);
        x.function(1, 0.0, 1.0, 12.0, 0.0);
        check.same("twelve times", x.value(3, 0.5), 1.0 / 4096.0);
        x.function(1, 5.0, 1.0, 1.0, 0.0);
        check.same("downwards", x.value(4, 0.25), 4.0);
        double p = 1.0 * 0.3 * 0.3 * 0.3;
        x.function(1, 0.1, 0.7, 3.0, 0.0);
        check.same("as it is written", x.value(5, 0.3), 0.1 + p * (0.7 - 0.1));
    }

    private static void stitched(Check check) {
        ShadeRows x = new ShadeRows();
        x.function(1, 0.0, 1.0, 1.0, 0.0);
        x.function(1, 10.0, 20.0, 1.0, 0.0);
        x.function(2, 1.0, 2.0, 0.25, 0.0);
        check.same("below", x.value(3, -9.0), 0.0);
        check.same("in the first", x.value(3, 0.125), 0.5);
        check.same("at the bound", x.value(3, 0.25), 10.0);
        check.same("in the second", x.value(3, 0.625), 15.0);
        check.same("above", x.value(3, 9.0), 20.0);
        x.function(2, 1.0, 2.0, 0.0, 0.0);
        check.same("bound 0.0 at 0.0", x.value(4, 0.0), 10.0);
        check.same("bound 0.0 at 0.5", x.value(4, 0.5), 15.0);
        x.function(2, 1.0, 2.0, 1.0, 0.0);
        check.same("bound 1.0 at 0.5", x.value(5, 0.5), 0.5);
        check.same("bound 1.0 at 1.0", x.value(5, 1.0), 10.0);
        x.function(2, 3.0, 5.0, 0.5, 0.0);
        check.same("stitched of stitched, first", x.value(6, 0.0625), 0.5);
        check.same("stitched of stitched, first's second", x.value(6, 0.3125), 15.0);
        check.same("stitched of stitched, second", x.value(6, 0.75), 0.5);
        check.same("stitched of stitched, end", x.value(6, 1.0), 10.0);
        stitchedTexts(check);
        x.function(2, 1.0, 2.0, 0.7, 0.0);
        check.same("first, as it is written", x.value(7, 0.3), 0.0 + 0.3 / 0.7 * 1.0);
        check.same("second, as it is written", x.value(7, 0.8), 10.0 + (0.8 - 0.7) / (1.0 - 0.7) * 10.0);
    }

    /** A text does not cut its number, so that it shows what it is given. */
    private static void stitchedTexts(Check check) {
        ShadeRows x = new ShadeRows();
        x.function(3, 0.0, 0.0, 0.0, 0.0);
        x.function(2, 1.0, 1.0, 0.5, 0.0);
        check.same("below, given", x.value(2, -5.0), 0.0);
        check.same("first, given", x.value(2, 0.25), 0.5);
        check.same("second, given", x.value(2, 0.75), 0.5);
        check.same("above, given", x.value(2, 5.0), 1.0);
        x.function(2, 1.0, 1.0, 1.0, 0.0);
        check.same("bound 1.0, given", x.value(3, 1.0), 0.0);
    }

    private static void longestChain(Check check) {
        ShadeRows x = new ShadeRows();
        x.text(0, 2.0);
        x.text(1, 0.0);
        x.function(3, 0.0, 0.0, 0.0, 0.0);
        for (int i = 2; i <= 24; i++) {
            check.same("stitched " + i, x.function(2, 1.0, i - 1, 0.0, 0.0), i);
        }
        check.same("through 23 of them", x.value(24, 0.75), 2.75);
    }

    private static void steps(Check check) {
        ShadeRows x = new ShadeRows();
        step(check, x, "0", 7.0, 3.0, 9, 0.0, 0, 7.0);
        step(check, x, "1", 7.5, 3.0, 0, 4.5, 1, 0.0);
        step(check, x, "2", -1.5, 3.0, 0, 4.5, 2, 0.0);
        step(check, x, "3", 13.5, 3.0, 0, 4.5, 3, 0.0);
        step(check, x, "4", 0.75, 3.0, 0, 4.0, 4, 0.0);
        step(check, x, "7", 9.0, 3.0, 7, 4.0, 3, 0.0);
        x = new ShadeRows();
        step(check, x, "10, less", 1.0, 3.0, 0, 4.0, 10, 0.0);
        check.same("10, the same", x.value(1, 4.0), 0.0);
        check.same("10, more", x.value(1, 5.0), 0.0);
        x = new ShadeRows();
        step(check, x, "5 and 6", 3.0, 3.0, 5, 0.0, 6, 0.0);
        check.same("5 and 6, above", x.value(1, -4.0), 4.0);
        check.same("5 and 6, little", x.value(1, 0.125), 0.125);
        check.same("5 and 6, little below", x.value(1, -0.125), 0.125);
        x = new ShadeRows();
        step(check, x, "6 and 5", -3.0, 3.0, 6, 0.0, 5, 0.0);
        check.same("6 and 5, below", x.value(1, -4.0), -4.0);
        stepsOfMore(check);
        roots(check);
    }

    private static void step(Check check, ShadeRows x, String what, double due, double t, int op, double v,
            int op2, double v2) {
        x.text(op, v);
        x.text(op2, v2);
        int number = x.function(3, 0.0, 0.0, 0.0, 0.0);
        check.same("step " + what, x.value(number, t), due);
    }

    private static void stepsOfMore(Check check) {
        ShadeRows x = new ShadeRows();
        x.text(0, 10.0);
        x.text(8, 0.0);
        x.text(2, 0.0);
        x.function(3, 0.0, 0.0, 0.0, 0.0);
        check.same("8: 10.0 - t", x.value(1, 3.0), 7.0);
        x.text(0, 10.0);
        x.text(9, 0.0);
        x.function(3, 0.0, 0.0, 0.0, 0.0);
        check.same("9: t alone", x.value(2, 3.0), 3.0);
        x.text(0, 20.0);
        x.text(0, 30.0);
        x.text(11, 0.0);
        x.function(3, 0.0, 0.0, 0.0, 0.0);
        check.same("11, a not 0.0", x.value(3, 3.0), 20.0);
        check.same("11, a 0.0", x.value(3, 0.0), 30.0);
        check.same("11, a below 0.0", x.value(3, -0.5), 20.0);
        check.same("11, a 0.0 from below", x.value(3, -0.0), 30.0);
        x.text(12, 0.0);
        x.function(3, 0.0, 0.0, 0.0, 0.0);
        check.same("12 below", x.value(4, -3.0), 0.0);
        check.same("12 within", x.value(4, 0.375), 0.375);
        check.same("12 above", x.value(4, 3.0), 1.0);
        for (int i = 0; i < 7; i++) {
            x.text(7, 0.0);
        }
        for (int i = 0; i < 7; i++) {
            x.text(1, 0.0);
        }
        check.same("eight on the stack", x.function(3, 0.0, 0.0, 0.0, 0.0), 5);
        check.same("their sum", x.value(5, 3.0), 24.0);
    }

    private static void roots(Check check) {
        ShadeRows x = new ShadeRows();
        x.text(13, 0.0);
        x.function(3, 0.0, 0.0, 0.0, 0.0);
        check.same("root of 16.0", x.value(1, 16.0), 4.0);
        check.same("root of 1000000.0", x.value(1, 1000000.0), 1000.0);
        check.same("root of 0.25", x.value(1, 0.25), 0.5);
        check.same("root of 0.0, by forty halves", x.value(1, 0.0), 1.0 / 1099511627776.0);
        check.same("root below 0.0", x.value(1, -16.0), 0.0);
    }

    private static void ranges(Check check) {
        ShadeRows x = new ShadeRows();
        x.text(0, 1000000.0);
        x.text(3, 0.0);
        x.function(3, 0.0, 0.0, 0.0, 0.0);
        check.same("1.0e12 is not too great", x.value(1, 1000000.0), 1.0e12);
        check.same("-1.0e12 is not too small", x.value(1, -1000000.0), -1.0e12);
        x.text(0, 1000000.0);
        x.text(3, 0.0);
        x.text(0, 1.0);
        x.text(1, 0.0);
        x.function(3, 0.0, 0.0, 0.0, 0.0);
        check.same("a sum above", x.value(2, 1000000.0), 0.0);
        check.same("a sum that is not above", x.value(2, 999999.0), 999999000001.0);
        x.text(0, 1000000.0);
        x.text(3, 0.0);
        x.text(0, 1.0);
        x.text(2, 0.0);
        x.function(3, 0.0, 0.0, 0.0, 0.0);
        check.same("a difference below", x.value(3, -1000000.0), 0.0);
        x.text(0, 1000000.0);
        x.text(8, 0.0);
        x.text(4, 0.0);
        x.function(3, 0.0, 0.0, 0.0, 0.0);
        check.same("an endless quotient", x.value(4, Double.MIN_VALUE), 0.0);
        check.same("a quotient", x.value(4, 0.5), 2000000.0);
        check.same("a quotient by 0.0", x.value(4, 0.0), 0.0);
        check.same("a quotient by 0.0 from below", x.value(4, -0.0), 0.0);
    }

    private static void wrongInputs(Check check) {
        ShadeRows x = new ShadeRows();
        x.function(1, 0.0, 1.0, 1.0, 0.0);
        for (int n : new int[] {0, -1, 2, 24, 25, Integer.MAX_VALUE, Integer.MIN_VALUE}) {
            check.raises("no function " + n, NoSuchElementException.class, () -> x.value(n, 0.0));
            check.raises("no function, not good " + n, NoSuchElementException.class, () -> x.value(n, Double.NaN));
        }
        double[] bad = {Double.NaN, Double.POSITIVE_INFINITY, Double.NEGATIVE_INFINITY, Math.nextUp(1000000.0),
            Math.nextDown(-1000000.0)};
        for (double t : bad) {
            check.raises("not good " + t, IllegalArgumentException.class, () -> x.value(1, t));
        }
        check.same("the greatest that is good", x.value(1, 1000000.0), 1.0);
        check.same("the least that is good", x.value(1, -1000000.0), 0.0);
    }
}
