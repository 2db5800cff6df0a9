import java.util.NoSuchElementException;

public final class Promise08VertexTest {
    public static void main(String[] args) {
        Check check = new Check("promise 8");
        kinds(check);
        places(check);
        limit(check);
        colours(check);
        check.end();
    }

    private static void kinds(Check check) {
        ShadeRows x = Fixtures.withFunctions();
        for (int kind = 1; kind <= 6; kind++) {
            x.shading(kind, 2.0, 0.0, 1.0, 1.0, 2.0, 3.0);
            check.same("a vertex of kind " + kind, x.vertex(kind, 1.0, 2.0, 3), kind < 4 ? 0 : 1);
            check.same("a second one", x.vertex(kind, 1.0, 2.0, 3), kind < 4 ? 0 : 2);
        }
        check.same("each shading has its own", x.vertex(4, 1.0, 2.0, 3), 3);
        for (int n : new int[] {0, -1, 7, 25, Integer.MAX_VALUE, Integer.MIN_VALUE}) {
            check.raises("no shading " + n, NoSuchElementException.class, () -> x.vertex(n, 0.0, 0.0, 0));
            check.raises("no shading, not good " + n, NoSuchElementException.class,
                    () -> x.vertex(n, Double.NaN, 0.0, 0));
        }
    }

    private static void places(Check check) {
        ShadeRows x = new ShadeRows();
        Fixtures.mesh(x, 4, 0.0);
        double[] bad = {Double.NaN, Double.POSITIVE_INFINITY, Double.NEGATIVE_INFINITY, Math.nextUp(1000000.0),
            Math.nextDown(-1000000.0)};
        for (double v : bad) {
            check.same("x " + v, x.vertex(1, v, 0.0, 0), 0);
            check.same("y " + v, x.vertex(1, 0.0, v, 0), 0);
        }
        check.same("there is none yet", x.vertex(1, 1000000.0, -1000000.0, 0), 1);
    }

    private static void limit(Check check) {
        for (int kind = 4; kind <= 6; kind++) {
            ShadeRows x = new ShadeRows();
            Fixtures.mesh(x, kind, 2.0);
            for (int i = 1; i <= 60; i++) {
                check.same("vertex " + i + " of kind " + kind, x.vertex(1, i, i, i), i);
            }
            check.same("a 61st of kind " + kind, x.vertex(1, 0.0, 0.0, 0), 0);
            check.same("and still", x.vertex(1, 0.0, 0.0, 0), 0);
            check.same("pieces of kind " + kind, x.pieces(1), kind == 4 ? 20 : kind == 5 ? 58 : 8);
        }
        ShadeRows x = new ShadeRows();
        Fixtures.mesh(x, 4, 0.0);
        Fixtures.colours(x, 1, new int[57]);
        x.vertex(1, 0.0, 0.0, 10);
        x.vertex(1, 8.0, 0.0, 10);
        x.vertex(1, 0.0, 8.0, 10);
        check.same("the last three paint", x.point(1, 1, 1, 0), 10);
    }

    private static void colours(Check check) {
        ShadeRows x = new ShadeRows();
        Fixtures.mesh(x, 4, 0.0);
        x.vertex(1, 0.0, 0.0, 0xff030201);
        x.vertex(1, 9.0, 0.0, 0x7f030201);
        x.vertex(1, 0.0, 9.0, 0x00030201);
        check.same("bands, the lowest byte first", Fixtures.bands(x, 1, 1, 1), "1 2 3");
        Fixtures.mesh(x, 4, 0.0);
        x.vertex(2, 0.0, 0.0, -1);
        x.vertex(2, 9.0, 0.0, -1);
        x.vertex(2, 0.0, 9.0, -1);
        check.same("below 0", Fixtures.bands(x, 2, 1, 1), "255 255 255");
    }
}
