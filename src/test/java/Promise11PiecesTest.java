import java.util.NoSuchElementException;

public final class Promise11PiecesTest {
    public static void main(String[] args) {
        Check check = new Check("promise 11");
        ShadeRows x = Fixtures.withFunctions();
        for (int kind = 1; kind <= 6; kind++) {
            x.shading(kind, 2.0, 0.0, 1.0, 1.0, 2.0, 3.0);
            check.same("at first, kind " + kind, x.pieces(kind), 0);
        }
        for (int n : new int[] {0, -1, 7, 25, Integer.MAX_VALUE, Integer.MIN_VALUE}) {
            check.raises("no shading " + n, NoSuchElementException.class, () -> x.pieces(n));
        }
        free(check);
        lattices(check);
        patches(check);
        check.end();
    }

    private static void free(Check check) {
        ShadeRows x = new ShadeRows();
        Fixtures.mesh(x, 4, 0.0);
        for (int i = 1; i <= 60; i++) {
            x.vertex(1, 0.0, 0.0, 0);
            check.same("free, of " + i, x.pieces(1), i / 3);
        }
    }

    private static void lattices(Check check) {
        for (int columns = 2; columns <= 8; columns++) {
            ShadeRows x = new ShadeRows();
            Fixtures.mesh(x, 5, columns);
            for (int i = 1; i <= 60; i++) {
                x.vertex(1, 0.0, 0.0, 0);
                int rows = i / columns;
                int due = rows < 2 ? 0 : (rows - 1) * (columns - 1) * 2;
                check.same("lattice of " + columns + ", of " + i, x.pieces(1), due);
            }
        }
    }

    private static void patches(Check check) {
        for (int cuts = 1; cuts <= 6; cuts++) {
            ShadeRows x = new ShadeRows();
            Fixtures.mesh(x, 6, cuts);
            for (int i = 1; i <= 6; i++) {
                x.vertex(1, 0.0, 0.0, 0);
                check.same("patch of " + cuts + ", of " + i, x.pieces(1), i < 4 ? 0 : cuts * cuts * 2);
            }
        }
    }
}
