import java.util.NoSuchElementException;

public final class Promise09PatchTest {
    public static void main(String[] args) {
        Check check = new Check("promise 9");
        answers(check);
        exceptions(check);
        pointsMove(check);
        check.end();
    }

    private static void answers(Check check) {
        ShadeRows x = Fixtures.withFunctions();
        for (int kind = 1; kind <= 6; kind++) {
            x.shading(kind, 2.0, 0.0, 1.0, 1.0, 2.0, 3.0);
            for (int i = 0; i <= 11; i++) {
                check.same("point " + i + " of kind " + kind, x.patch(kind, i, 1.0, 2.0), kind == 6 ? 1 : 0);
            }
        }
        double[] bad = {Double.NaN, Double.POSITIVE_INFINITY, Double.NEGATIVE_INFINITY, Math.nextUp(1000000.0),
            Math.nextDown(-1000000.0)};
        for (double v : bad) {
            check.same("x " + v, x.patch(6, 0, v, 0.0), 0);
            check.same("y " + v, x.patch(6, 0, 0.0, v), 0);
        }
        check.same("the farthest", x.patch(6, 0, -1000000.0, 1000000.0), 1);
    }

    private static void exceptions(Check check) {
        ShadeRows x = new ShadeRows();
        Fixtures.mesh(x, 6, 1.0);
        Fixtures.mesh(x, 4, 1.0);
        for (int i : new int[] {-1, 12, Integer.MAX_VALUE, Integer.MIN_VALUE}) {
            check.raises("no point " + i, ArrayIndexOutOfBoundsException.class, () -> x.patch(1, i, 0.0, 0.0));
            check.raises("no point, not good " + i, ArrayIndexOutOfBoundsException.class,
                    () -> x.patch(1, i, Double.NaN, 0.0));
            check.raises("no point of another kind " + i, ArrayIndexOutOfBoundsException.class,
                    () -> x.patch(2, i, 0.0, 0.0));
        }
        for (int n : new int[] {0, -1, 3, 25, Integer.MAX_VALUE, Integer.MIN_VALUE}) {
            check.raises("no shading " + n, NoSuchElementException.class, () -> x.patch(n, 0, 0.0, 0.0));
            check.raises("no shading nor point " + n, NoSuchElementException.class, () -> x.patch(n, 12, 0.0, 0.0));
        }
    }

    private static void pointsMove(Check check) {
        ShadeRows x = new ShadeRows();
        int patch = Fixtures.squarePatch(x, 1.0);
        Fixtures.colours(x, patch, 10, 10, 10, 10);
        check.same("outside of the square", x.point(patch, 12, 5, 0), -1);
        x.patch(patch, 3, Double.NaN, 0.0);
        check.same("a place that is not good moves nothing", x.point(patch, 11, 0, 0), 10);
        x.patch(patch, 3, 20.0, 0.0);
        x.patch(patch, 6, 20.0, 12.0);
        check.same("within when two corners moved", x.point(patch, 19, 5, 0), 10);
        int other = Fixtures.squarePatch(x, 1.0);
        Fixtures.colours(x, other, 10, 10, 10, 10);
        check.same("another patch has its own points", x.point(other, 19, 5, 0), -1);
        int first = Fixtures.mesh(x, 6, 1.0);
        Fixtures.colours(x, first, 10, 10, 10, 10);
        check.same("at first all are at (0.0, 0.0)", x.point(first, 0, 0, 0), -1);
        x.patch(first, 3, 12.0, 0.0);
        x.patch(first, 9, 0.0, 12.0);
        check.same("two corners are moved, the others are there", x.point(first, 3, 3, 0), 10);
    }
}
