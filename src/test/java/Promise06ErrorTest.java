import java.util.NoSuchElementException;

public final class Promise06ErrorTest {
    public static void main(String[] args) {
        Check check = new Check("promise 6");
        each(check);
        firstOnly(check);
        inStitched(check);
        onlyOfValue(check);
        check.end();
    }

    private static void each(Check check) {
        ShadeRows x = new ShadeRows();
        check.same("at first", x.error(), 0);
        x.function(1, 0.0, 1.0, 0.0, 0.0);
        due(check, x, 1, 0.0, 2);
        due(check, x, 1, -3.0, 2);
        due(check, x, 1, -0.0, 2);
        due(check, x, 1, 0.5, 0);
        x.function(1, 0.0, 1.0, 1.0, 0.0);
        due(check, x, 2, 0.0, 0);
        x.text(0, 1.0);
        x.text(8, 0.0);
        x.text(4, 0.0);
        x.function(3, 0.0, 0.0, 0.0, 0.0);
        due(check, x, 3, 0.0, 3);
        due(check, x, 3, 2.0, 0);
        due(check, x, 3, 1.0e-13, 5);
        x.text(13, 0.0);
        x.function(3, 0.0, 0.0, 0.0, 0.0);
        due(check, x, 4, -0.5, 4);
        due(check, x, 4, 0.0, 0);
        due(check, x, 4, -0.0, 0);
        x.text(7, 0.0);
        x.text(3, 0.0);
        x.text(7, 0.0);
        x.text(1, 0.0);
        x.function(3, 0.0, 0.0, 0.0, 0.0);
        due(check, x, 5, 1000000.0, 5);
        due(check, x, 5, 1000.0, 0);
        x.function(0, 2.0, 0.0, 1.0, 0.0);
        due(check, x, 6, 0.0, 0);
    }

    private static void due(Check check, ShadeRows x, int function, double t, int error) {
        x.value(function, t);
        check.same("error of function " + function + " at " + t, x.error(), error);
        check.same("the same again", x.error(), error);
    }

    private static void firstOnly(Check check) {
        ShadeRows x = new ShadeRows();
        x.text(7, 0.0);
        x.text(13, 0.0);
        x.text(4, 0.0);
        x.function(3, 0.0, 0.0, 0.0, 0.0);
        due(check, x, 1, -1.0, 4);
        x.text(0, 0.0);
        x.text(4, 0.0);
        x.text(0, -1.0);
        x.text(13, 0.0);
        x.text(1, 0.0);
        x.function(3, 0.0, 0.0, 0.0, 0.0);
        due(check, x, 2, 1.0, 3);
    }

    private static void inStitched(Check check) {
        ShadeRows x = new ShadeRows();
        x.function(1, 0.0, 1.0, 0.0, 0.0);
        x.text(0, 0.0);
        x.text(4, 0.0);
        x.function(3, 0.0, 0.0, 0.0, 0.0);
        x.function(2, 1.0, 2.0, 0.5, 0.0);
        due(check, x, 3, 0.0, 2);
        due(check, x, 3, 0.25, 0);
        due(check, x, 3, 0.75, 3);
    }

    private static void onlyOfValue(Check check) {
        ShadeRows x = new ShadeRows();
        x.function(1, 0.0, 1.0, 0.0, 0.0);
        x.function(1, 0.0, 1.0, 1.0, 0.0);
        x.function(1, 0.0, 1.0, 1.0, 0.0);
        x.shading(1, 0.0, 0.0, 0.0, 0.0, 0.0, 0.0);
        x.point(1, 0, 0, 0);
        check.same("a point's colour is no value()", x.error(), 0);
        x.value(1, 0.0);
        x.point(1, 0, 0, 1);
        check.same("nor does it take the error away", x.error(), 2);
        check.raises("no function", NoSuchElementException.class, () -> x.value(9, 0.0));
        check.same("a throw changes nothing", x.error(), 2);
        check.raises("not good", IllegalArgumentException.class, () -> x.value(2, Double.NaN));
        check.same("neither throw does", x.error(), 2);
        x.value(2, 0.5);
        check.same("a value without one", x.error(), 0);
    }
}
