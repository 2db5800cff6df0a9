import java.util.NoSuchElementException;

public final class Promise12PointTest {
    private static final String NO = "-1 -1 -1";

    public static void main(String[] args) {
        Check check = new Check("promise 12");
        wrongInputs(check);
        whichFunctions(check);
        planes(check);
        lines(check);
        shortLines(check);
        check.end();
    }

    private static void wrongInputs(Check check) {
        ShadeRows x = Fixtures.withFunctions();
        for (int kind = 1; kind <= 6; kind++) {
            int n = x.shading(kind, 2.0, 0.0, 1.0, 1.0, 2.0, 3.0);
            for (int band : new int[] {-1, 3, Integer.MAX_VALUE, Integer.MIN_VALUE}) {
                check.raises("band " + band, ArrayIndexOutOfBoundsException.class, () -> x.point(n, 0, 0, band));
                check.raises("band and place " + band, ArrayIndexOutOfBoundsException.class,
                        () -> x.point(n, 10001, 0, band));
            }
            for (int far : new int[] {-10001, 10001, Integer.MAX_VALUE, Integer.MIN_VALUE}) {
                check.raises("x " + far, IllegalArgumentException.class, () -> x.point(n, far, 0, 0));
                check.raises("y " + far, IllegalArgumentException.class, () -> x.point(n, 0, far, 0));
            }
            check.same("farthest of kind " + kind, x.point(n, 10000, -10000, 2), kind == 1 ? 255 : -1);
            check.same("farthest of kind " + kind + ", left", x.point(n, -10000, 10000, 2), kind == 1 ? 0 : -1);
        }
        for (int n : new int[] {0, -1, 7, 25, Integer.MAX_VALUE, Integer.MIN_VALUE}) {
            check.raises("no shading " + n, NoSuchElementException.class, () -> x.point(n, 0, 0, 0));
            check.raises("nothing right " + n, NoSuchElementException.class, () -> x.point(n, 10001, 0, 3));
        }
    }

    private static void whichFunctions(Check check) {
        ShadeRows x = new ShadeRows();
        for (int i = 1; i <= 4; i++) {
            x.function(1, i / 255.0, i / 255.0, 1.0, 0.0);
        }
        for (int kind = 1; kind <= 3; kind++) {
            x.shading(kind, 0.0, 0.0, 1.0, 1.0, 0.0, 2.0);
            x.extend(kind, true, true);
        }
        x.function(1, 9.0, 9.0, 1.0, 0.0);
        for (int kind = 1; kind <= 3; kind++) {
            check.same("the last three before it, kind " + kind, Fixtures.bands(x, kind, 0, 0), "2 3 4");
        }
        ShadeRows y = new ShadeRows();
        y.function(1, -3.0, -3.0, 1.0, 0.0);
        y.function(1, 3.0, 3.0, 1.0, 0.0);
        y.function(0, 2.0, 0.0, 1.0, 0.0);
        y.shading(1, 0.0, 0.0, 0.0, 0.0, 0.0, 0.0);
        check.same("values beyond 0.0 .. 1.0", Fixtures.bands(y, 1, 0, 0), "0 255 0");
        y.sample(3, 0, 77);
        check.same("a sample that comes later counts", Fixtures.bands(y, 1, 0, 0), "0 255 77");
    }

    private static void planes(Check check) {
        ShadeRows x = Fixtures.withFunctions();
        x.shading(1, 0.1, 0.0, 0.0, 0.0, 0.0, 0.0);
        due(check, x, 1, -1, 3, "0 255 0");
        due(check, x, 1, 0, 3, "13 242 1");
        due(check, x, 1, 4, 3, "115 140 52");
        due(check, x, 1, 9, 3, "242 13 230");
        due(check, x, 1, 10, 3, "255 0 255");
        x.shading(1, 0.125, -0.25, 0.5, 0.0, 0.0, 0.0);
        due(check, x, 2, 0, 0, "112 143 49");
        due(check, x, 2, 3, 2, "80 175 25");
        farPlane(check, x);
    }

    /** t need not be good there, and comes as it is to a text: here 1000000.0 * 10000.5. */
    private static void farPlane(Check check, ShadeRows x) {
        x.text(0, 1000000.0);
        x.text(4, 0.0);
        x.text(0, 10000.0);
        x.text(2, 0.0);
        for (int i = 0; i < 3; i++) {
            x.function(3, 0.0, 0.0, 0.0, 0.0);
        }
        x.shading(1, 1000000.0, 0.0, 0.0, 0.0, 0.0, 0.0);
        due(check, x, 3, 10000, 0, "128 255 255");
    }

    private static void lines(Check check) {
        ShadeRows x = Fixtures.withFunctions();
        x.shading(2, 0.0, 0.0, 10.0, 0.0, 0.0, 0.0);
        due(check, x, 1, -1, 7, NO);
        due(check, x, 1, 0, 7, "13 242 1");
        due(check, x, 1, 4, 7, "115 140 52");
        due(check, x, 1, 9, 7, "242 13 230");
        due(check, x, 1, 10, 7, NO);
        x.shading(2, 1.0, 2.0, 5.0, 10.0, 0.0, 0.0);
        due(check, x, 2, 1, 2, "19 236 1");
        due(check, x, 2, 3, 5, "121 134 58");
        due(check, x, 2, 0, 9, "185 70 134");
        due(check, x, 2, 0, 0, NO);
        x.shading(2, 0.5, 0.0, 4.5, 0.0, 0.0, 0.0);
        due(check, x, 3, -1, 0, NO);
        due(check, x, 3, 0, 0, "0 255 0");
        due(check, x, 3, 4, 0, "255 0 255");
        due(check, x, 3, 5, 0, NO);
    }

    /** The squares of these lines are 0.0: t is endless, or no number. */
    private static void shortLines(Check check) {
        ShadeRows x = Fixtures.withFunctions();
        x.shading(2, 0.0, 0.0, 1.0e-200, 0.0, 0.0, 0.0);
        due(check, x, 1, 3, 0, NO);
        due(check, x, 1, -3, 0, NO);
        x.extend(1, false, true);
        due(check, x, 1, 3, 0, "255 0 255");
        due(check, x, 1, -3, 0, NO);
        x.extend(1, true, false);
        due(check, x, 1, 3, 0, NO);
        due(check, x, 1, -3, 0, "0 255 0");
        x.shading(2, 0.0, 0.0, Double.MIN_VALUE, 0.0, 0.0, 0.0);
        x.extend(2, true, true);
        due(check, x, 2, 0, 0, NO);
        due(check, x, 2, 1, 0, "255 0 255");
        due(check, x, 2, -2, 0, "0 255 0");
    }

    private static void due(Check check, ShadeRows x, int shading, int px, int py, String due) {
        check.same("point(" + shading + ", " + px + ", " + py + ")", Fixtures.bands(x, shading, px, py), due);
    }
}
