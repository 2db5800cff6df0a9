import java.util.NoSuchElementException;

public final class Promise10ExtendTest {
    public static void main(String[] args) {
        Check check = new Check("promise 10");
        answers(check);
        ends(check, 2, "line");
        ends(check, 3, "circles");
        asEnds(check);
        check.end();
    }

    private static void answers(Check check) {
        ShadeRows x = Fixtures.withFunctions();
        for (int kind = 1; kind <= 6; kind++) {
            x.shading(kind, 2.0, 0.0, 1.0, 1.0, 2.0, 3.0);
            int due = kind == 2 || kind == 3 ? 1 : 0;
            check.same("kind " + kind, x.extend(kind, true, false), due);
            check.same("kind " + kind + " again", x.extend(kind, false, false), due);
        }
        for (int n : new int[] {0, -1, 7, 25, Integer.MAX_VALUE, Integer.MIN_VALUE}) {
            check.raises("no shading " + n, NoSuchElementException.class, () -> x.extend(n, true, true));
        }
    }

    /** Both shadings go from left to right; below (-10, 0) t is below 0.0, at (30, 0) above 1.0. */
    private static void ends(Check check, int kind, String what) {
        ShadeRows x = Fixtures.withFunctions();
        if (kind == 2) {
            x.shading(2, 0.0, 0.5, 10.0, 0.5, 0.0, 0.0);
        } else {
            x.shading(3, 0.0, 0.5, 2.0, 10.0, 0.5, 2.0);
        }
        String no = "-1 -1 -1";
        String begin = "0 255 0";
        String end = "255 0 255";
        due(check, x, what + ", at first", no, no);
        x.extend(1, true, false);
        due(check, x, what + ", at its begin", begin, no);
        x.extend(1, false, true);
        due(check, x, what + ", at its end", no, end);
        x.extend(1, true, true);
        due(check, x, what + ", at both", begin, end);
        x.extend(1, false, false);
        due(check, x, what + ", no more", no, no);
    }

    /** A text, t / 4.0 + 0.5, shows that t is painted as 0.0 and as 1.0, and not as it is. */
    private static void asEnds(Check check) {
        ShadeRows x = new ShadeRows();
        for (int i = 0; i < 3; i++) {
            x.text(0, 4.0);
            x.text(4, 0.0);
            x.text(0, 0.5);
            x.text(1, 0.0);
            x.function(3, 0.0, 0.0, 0.0, 0.0);
        }
        x.shading(2, 0.0, 0.5, 10.0, 0.5, 0.0, 0.0);
        x.shading(3, 0.0, 0.5, 2.0, 10.0, 0.5, 2.0);
        for (int n = 1; n <= 2; n++) {
            x.extend(n, true, true);
            check.same("painted as 0.0", Fixtures.bands(x, n, -7, 0), "128 128 128");
            check.same("painted as 1.0", Fixtures.bands(x, n, 15, 0), "191 191 191");
        }
    }

    private static void due(Check check, ShadeRows x, String what, String before, String behind) {
        check.same(what + ", before", Fixtures.bands(x, 1, -10, 0), before);
        check.same(what + ", behind", Fixtures.bands(x, 1, 30, 0), behind);
    }
}
