import java.util.NoSuchElementException;

/** The sentences of promises 7 to 12 themselves. */
public final class BoundaryPromises7To12Test {
    private static final int LEAST = Integer.MIN_VALUE;
    private static final int MOST = Integer.MAX_VALUE;
    private static final Class<NoSuchElementException> NONE = NoSuchElementException.class;
    private static final Class<ArrayIndexOutOfBoundsException> INDEX = ArrayIndexOutOfBoundsException.class;
    private static final Class<IllegalArgumentException> WRONG = IllegalArgumentException.class;

    public static void main(String[] args) {
        Check check = new Check("boundaries, promises 7 to 12");
        check.sentence("7. A shading: its number; 0 when a number is not as it must be",
                BoundaryPromises7To12Test::shadingNumbers);
        check.sentence("7. one that its kind uses must be GOOD, too", BoundaryPromises7To12Test::shadingGood);
        check.sentence("7. there are fewer than three functions (kinds 1 to 3)",
                BoundaryPromises7To12Test::fewerFunctions);
        check.sentence("7. or there are 24 shadings", BoundaryPromises7To12Test::shadings24);
        check.sentence("8. band 0 the lowest byte; the lowest 24 bits", BoundaryPromises7To12Test::colourBits);
        check.sentence("8. of a shading of kind 4 to 6: how many it has", BoundaryPromises7To12Test::verticesCounted);
        check.sentence("8. 0 (and there is none more) for another kind", BoundaryPromises7To12Test::vertexKinds);
        check.sentence("8. places that are not good", BoundaryPromises7To12Test::vertexPlaces);
        check.sentence("8. or 60 vertices", BoundaryPromises7To12Test::vertices60);
        check.sentence("8. NoSuchElementException", BoundaryPromises7To12Test::noVertex);
        check.sentence("9. Point i of a patch: 1; 0 for another kind", BoundaryPromises7To12Test::patchKinds);
        check.sentence("9. or a place that is not good", BoundaryPromises7To12Test::patchPlaces);
        check.sentence("9. NoSuchElementException", BoundaryPromises7To12Test::noPatch);
        check.sentence("9. ArrayIndexOutOfBoundsException", BoundaryPromises7To12Test::noPoint);
        check.sentence("10. A shading of kind 2 or 3 is extended, or not: 1", BoundaryPromises7To12Test::extended);
        check.sentence("10. 0 for another kind", BoundaryPromises7To12Test::notExtended);
        check.sentence("10. NoSuchElementException", BoundaryPromises7To12Test::noneToExtend);
        check.sentence("11. How many triangles a shading has", BoundaryPromises7To12Test::piecesCounted);
        check.sentence("11. 0 of kinds 1 to 3", BoundaryPromises7To12Test::noPieces);
        check.sentence("11. NoSuchElementException", BoundaryPromises7To12Test::noneToCount);
        check.sentence("12. -1 where it is not painted", BoundaryPromises7To12Test::notPainted);
        check.sentence("12. ArrayIndexOutOfBoundsException for another band", BoundaryPromises7To12Test::otherBands);
        check.sentence("12. IllegalArgumentException when x or y is not -10000 .. 10000",
                BoundaryPromises7To12Test::farPoints);
        check.sentence("12. NoSuchElementException", BoundaryPromises7To12Test::noShadingToPaint);
        check.end();
    }

    private static void shadingNumbers(Check check) {
        ShadeRows x = Fixtures.withFunctions();
        for (int kind : new int[] {0, -1, 7, 256, LEAST, MOST}) {
            check.same("kind " + kind, x.shading(kind, 2.0, 0.0, 1.0, 1.0, 2.0, 3.0), 0);
        }
        check.same("a line to itself", x.shading(2, 1.0, 1.0, 1.0, 1.0, 0.0, 0.0), 0);
        check.same("the same circles", x.shading(3, 1.0, 1.0, 1.0, 1.0, 1.0, 1.0), 0);
        check.same("a radius below 0.0", x.shading(3, 1.0, 1.0, -1.0, 1.0, 1.0, 1.0), 0);
        check.same("a lattice of 9", Fixtures.mesh(x, 5, 9.0), 0);
        check.same("a patch of 7", Fixtures.mesh(x, 6, 7.0), 0);
        for (int kind = 1; kind <= 6; kind++) {
            check.same("kind " + kind, x.shading(kind, 2.0, 0.0, 1.0, 1.0, 2.0, 3.0), kind);
        }
        check.raises("there is no seventh one", NONE, () -> x.pieces(7));
    }

    /** Of each kind the first numbers are used, so many; the others do not matter. */
    private static void shadingGood(Check check) {
        int[] used = {0, 3, 4, 6, 0, 1, 1};
        for (double v : Fixtures.notGood()) {
            for (int kind = 1; kind <= 6; kind++) {
                for (int i = 0; i < 6; i++) {
                    double[] n = {2.0, 0.0, 1.0, 1.0, 2.0, 3.0};
                    n[i] = v;
                    ShadeRows x = Fixtures.withFunctions();
                    check.same("kind " + kind + " with number " + i + " " + v,
                            x.shading(kind, n[0], n[1], n[2], n[3], n[4], n[5]), i < used[kind] ? 0 : 1);
                }
            }
        }
    }

    private static void fewerFunctions(Check check) {
        ShadeRows x = new ShadeRows();
        for (int count = 0; count < 3; count++) {
            for (int kind = 1; kind <= 3; kind++) {
                check.same("kind " + kind + " of " + count, x.shading(kind, 2.0, 0.0, 1.0, 1.0, 2.0, 3.0), 0);
            }
            x.function(1, 0.0, 1.0, 1.0, 0.0);
        }
        for (int kind = 1; kind <= 3; kind++) {
            check.same("kind " + kind + " of 3", x.shading(kind, 2.0, 0.0, 1.0, 1.0, 2.0, 3.0), kind);
        }
        ShadeRows none = new ShadeRows();
        for (int kind = 4; kind <= 6; kind++) {
            check.same("kind " + kind + " of none", Fixtures.mesh(none, kind, 2.0), kind - 3);
        }
    }

    private static void shadings24(Check check) {
        ShadeRows x = Fixtures.withFunctions();
        for (int i = 1; i <= 24; i++) {
            check.same("shading " + i, x.shading(1 + i % 6, 2.0, 0.0, 1.0, 1.0, 2.0, 3.0), i);
        }
        for (int kind = 1; kind <= 6; kind++) {
            check.same("a 25th of kind " + kind, x.shading(kind, 2.0, 0.0, 1.0, 1.0, 2.0, 3.0), 0);
        }
        check.raises("it is not there", NONE, () -> x.pieces(25));
        check.same("the 21st is a free one as before", x.vertex(21, 0.0, 0.0, 0), 1);
    }

    private static void colourBits(Check check) {
        int[] colours = {0x030201, 0xff030201, 0x80030201, 0x01000000, 0xff000000, -1, LEAST, MOST};
        String[] bands = {"1 2 3", "1 2 3", "1 2 3", "0 0 0", "0 0 0", "255 255 255", "0 0 0", "255 255 255"};
        ShadeRows x = new ShadeRows();
        for (int i = 0; i < colours.length; i++) {
            int free = Fixtures.mesh(x, 4, 0.0);
            Fixtures.vertices(x, free, colours[i], 0.0, 0.0, 8.0, 0.0, 0.0, 8.0);
            check.same("free, " + colours[i], Fixtures.bands(x, free, 1, 1), bands[i]);
            int patch = Fixtures.squarePatch(x, 1.0);
            Fixtures.colours(x, patch, colours[i], colours[i], colours[i], colours[i]);
            check.same("patch, " + colours[i], Fixtures.bands(x, patch, 5, 5), bands[i]);
        }
    }

    private static void verticesCounted(Check check) {
        ShadeRows x = Fixtures.withAllKinds();
        for (int i = 1; i <= 60; i++) {
            for (int kind = 4; kind <= 6; kind++) {
                check.same("vertex " + i + " of kind " + kind, x.vertex(kind, 1.0, 1.0, 0), i);
            }
        }
    }

    private static void vertexKinds(Check check) {
        ShadeRows x = Fixtures.withAllKinds();
        for (int kind = 1; kind <= 3; kind++) {
            check.same("kind " + kind, x.vertex(kind, 1.0, 1.0, 0), 0);
            check.same("kind " + kind + ", not good", x.vertex(kind, Double.NaN, 1.0, 0), 0);
            check.same("kind " + kind + " again", x.vertex(kind, 1.0, 1.0, 0), 0);
            check.same("pieces of kind " + kind, x.pieces(kind), 0);
        }
    }

    private static void vertexPlaces(Check check) {
        for (int kind = 4; kind <= 6; kind++) {
            ShadeRows x = Fixtures.withAllKinds();
            for (double v : Fixtures.notGood()) {
                check.same("x " + v + " of kind " + kind, x.vertex(kind, v, 0.0, 0), 0);
                check.same("y " + v + " of kind " + kind, x.vertex(kind, 0.0, v, 0), 0);
                check.same("both " + v + " of kind " + kind, x.vertex(kind, v, v, 0), 0);
            }
            check.same("there is none yet", x.vertex(kind, -1000000.0, 1000000.0, 0), 1);
            check.same("and then one", x.vertex(kind, 1000000.0, -1000000.0, 0), 2);
        }
    }

    /** What the 60th has made stays as it is when a 61st is refused. */
    private static void vertices60(Check check) {
        for (int kind = 4; kind <= 6; kind++) {
            ShadeRows x = new ShadeRows();
            Fixtures.mesh(x, kind, 2.0);
            for (int i = 0; i < 59; i++) {
                x.vertex(1, 8.0 * (i % 2), 8.0 * (i / 2), 9);
            }
            check.same("a 60th of kind " + kind, x.vertex(1, 8.0, 232.0, 9), 60);
            int pieces = x.pieces(1);
            int last = x.point(1, 7, 231, 0);
            check.same("pieces", pieces, kind == 4 ? 20 : kind == 5 ? 58 : 8);
            check.same("the last triangle is painted, but of a patch", last, kind == 6 ? -1 : 9);
            check.same("a 61st of kind " + kind, x.vertex(1, 0.0, 0.0, 200), 0);
            check.same("a 62nd of kind " + kind, x.vertex(1, 0.0, 0.0, 200), 0);
            check.same("pieces still", x.pieces(1), pieces);
            check.same("and painted as before", x.point(1, 7, 231, 0), last);
        }
    }

    private static void noVertex(Check check) {
        ShadeRows x = Fixtures.withAllKinds();
        for (int n : Fixtures.noNumbers(6)) {
            check.raises("vertex(" + n + ")", NONE, () -> x.vertex(n, 0.0, 0.0, 0));
            check.raises("vertex(" + n + ") not good", NONE, () -> x.vertex(n, Double.NaN, 0.0, 0));
        }
    }

    private static void patchKinds(Check check) {
        ShadeRows x = Fixtures.withAllKinds();
        for (int kind = 1; kind <= 6; kind++) {
            for (int i = 0; i <= 11; i++) {
                check.same("point " + i + " of kind " + kind, x.patch(kind, i, 1.0, 1.0), kind == 6 ? 1 : 0);
            }
        }
    }

    private static void patchPlaces(Check check) {
        ShadeRows x = new ShadeRows();
        int n = Fixtures.squarePatch(x, 1.0);
        Fixtures.colours(x, n, 9, 9, 9, 9);
        for (double v : Fixtures.notGood()) {
            check.same("x " + v, x.patch(n, 6, v, 0.0), 0);
            check.same("y " + v, x.patch(n, 6, 0.0, v), 0);
            check.same("both " + v, x.patch(n, 6, v, v), 0);
        }
        check.same("the point is where it was", x.point(n, 11, 11, 0), 9);
        check.same("as far as may be", x.patch(n, 6, 1000000.0, -1000000.0), 1);
        check.same("the point is moved", x.point(n, 11, 11, 0), -1);
    }

    private static void noPatch(Check check) {
        ShadeRows x = Fixtures.withAllKinds();
        for (int n : Fixtures.noNumbers(6)) {
            check.raises("patch(" + n + ")", NONE, () -> x.patch(n, 0, 0.0, 0.0));
            check.raises("patch(" + n + ") not good", NONE, () -> x.patch(n, 0, Double.NaN, 0.0));
            check.raises("patch(" + n + ") no point", NONE, () -> x.patch(n, 12, 0.0, 0.0));
        }
    }

    private static void noPoint(Check check) {
        ShadeRows x = Fixtures.withAllKinds();
        for (int i : new int[] {-1, 12, 13, LEAST, MOST}) {
            check.raises("point " + i, INDEX, () -> x.patch(6, i, 0.0, 0.0));
            check.raises("point " + i + ", not good", INDEX, () -> x.patch(6, i, Double.NaN, 0.0));
            check.raises("point " + i + " of another kind", INDEX, () -> x.patch(1, i, 0.0, 0.0));
        }
        check.same("the first one", x.patch(6, 0, 0.0, 0.0), 1);
        check.same("the last one", x.patch(6, 11, 0.0, 0.0), 1);
    }

    private static void extended(Check check) {
        ShadeRows x = Fixtures.withFunctions();
        x.shading(2, 0.5, 0.5, 8.5, 0.5, 0.0, 0.0);
        x.shading(3, 0.5, 0.5, 0.0, 8.5, 0.5, 0.0);
        for (int n = 1; n <= 2; n++) {
            for (int how : new int[] {0, 1, 2, 3, 0, 3, 2, 1, 0}) {
                boolean begins = how % 2 == 1;
                boolean ends = how / 2 == 1;
                check.same("extend(" + n + ", " + begins + ", " + ends + ")", x.extend(n, begins, ends), 1);
                check.same("before", x.point(n, -5, 0, 1), begins ? 255 : -1);
                check.same("behind", x.point(n, 15, 0, 0), ends ? 255 : -1);
            }
        }
        x.extend(1, true, true);
        check.same("the other one is not", x.point(2, 15, 0, 0), -1);
    }

    private static void notExtended(Check check) {
        ShadeRows x = Fixtures.withAllKinds();
        for (int kind : new int[] {1, 4, 5, 6}) {
            check.same("kind " + kind, x.extend(kind, true, true), 0);
            check.same("kind " + kind + " again", x.extend(kind, false, false), 0);
        }
    }

    private static void noneToExtend(Check check) {
        ShadeRows x = Fixtures.withAllKinds();
        for (int n : Fixtures.noNumbers(6)) {
            check.raises("extend(" + n + ")", NONE, () -> x.extend(n, true, true));
        }
    }

    private static void piecesCounted(Check check) {
        ShadeRows x = Fixtures.withAllKinds();
        for (int kind = 4; kind <= 6; kind++) {
            check.same("of kind " + kind + " without vertices", x.pieces(kind), 0);
            for (int i = 1; i <= 60; i++) {
                x.vertex(kind, 0.0, 0.0, 0);
                int due = kind == 4 ? i / 3 : kind == 5 ? i < 4 ? 0 : (i / 2 - 1) * 2 : i < 4 ? 0 : 8;
                check.same("of kind " + kind + " with " + i, x.pieces(kind), due);
            }
        }
    }

    private static void noPieces(Check check) {
        ShadeRows x = Fixtures.withAllKinds();
        for (int kind = 1; kind <= 3; kind++) {
            x.vertex(kind, 0.0, 0.0, 0);
            x.extend(kind, true, true);
            check.same("of kind " + kind, x.pieces(kind), 0);
        }
    }

    private static void noneToCount(Check check) {
        ShadeRows x = Fixtures.withAllKinds();
        for (int n : Fixtures.noNumbers(6)) {
            check.raises("pieces(" + n + ")", NONE, () -> x.pieces(n));
        }
    }

    /** In each band, of each kind but the plane, which is painted everywhere. */
    private static void notPainted(Check check) {
        ShadeRows x = Fixtures.withAllKinds();
        for (int kind = 1; kind <= 6; kind++) {
            String due = kind == 1 ? "255 0 255" : Fixtures.NO;
            check.same("kind " + kind, Fixtures.bands(x, kind, 10000, -10000), due);
        }
        int free = Fixtures.mesh(x, 4, 0.0);
        Fixtures.vertices(x, free, 0, 0.0, 0.0, 8.0, 0.0, 0.0, 8.0);
        check.same("painted with 0", Fixtures.bands(x, free, 1, 1), "0 0 0");
        check.same("not painted", Fixtures.bands(x, free, 9, 9), Fixtures.NO);
    }

    private static void otherBands(Check check) {
        ShadeRows x = Fixtures.withAllKinds();
        for (int kind = 1; kind <= 6; kind++) {
            int n = kind;
            for (int band : new int[] {-1, 3, 4, LEAST, MOST}) {
                check.raises("band " + band + " of kind " + kind, INDEX, () -> x.point(n, 0, 0, band));
            }
        }
        check.same("all three", Fixtures.bands(x, 1, -5, 0), "0 255 0");
    }

    private static void farPoints(Check check) {
        ShadeRows x = Fixtures.withAllKinds();
        for (int kind = 1; kind <= 6; kind++) {
            int n = kind;
            for (int far : new int[] {-10001, 10001, LEAST, MOST}) {
                check.raises("x " + far + " of kind " + kind, WRONG, () -> x.point(n, far, 0, 0));
                check.raises("y " + far + " of kind " + kind, WRONG, () -> x.point(n, 0, far, 0));
                check.raises("both " + far + " of kind " + kind, WRONG, () -> x.point(n, far, far, 0));
            }
        }
        x.shading(1, 0.0, 0.0, 1.0, 0.0, 0.0, 0.0);
        for (int end : new int[] {-10000, 10000}) {
            check.same("x " + end, x.point(7, end, 0, 0), 255);
            check.same("y " + end, x.point(7, 0, end, 0), 255);
            check.same("both " + end, x.point(7, end, end, 0), 255);
        }
    }

    private static void noShadingToPaint(Check check) {
        ShadeRows x = Fixtures.withAllKinds();
        for (int n : Fixtures.noNumbers(6)) {
            check.raises("point(" + n + ")", NONE, () -> x.point(n, 0, 0, 0));
            check.raises("point(" + n + ") of no band", NONE, () -> x.point(n, 0, 0, 3));
            check.raises("point(" + n + ") too far", NONE, () -> x.point(n, 0, 10001, 0));
        }
    }
}
