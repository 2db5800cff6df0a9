/** Section "Terms": functions that are texts, and the error of a value. */
public final class BoundaryStepsTest {
    /** The next numbers behind 1.0e12 are so far away. */
    private static final double HAIR = Math.ulp(1.0e12);

    public static void main(String[] args) {
        Check check = new Check("boundaries, steps");
        check.sentence("They have a stack, at first with t alone", BoundaryStepsTest::atFirst);
        check.sentence("8 numbers at most", BoundaryStepsTest::eight);
        check.sentence("4 a / b (0.0 and ERROR 3 when b is 0.0)", BoundaryStepsTest::divisor);
        check.sentence("each 0.0 and ERROR 5 where it is below -1.0e12", BoundaryStepsTest::tooSmall);
        check.sentence("or above 1.0e12", BoundaryStepsTest::tooLarge);
        check.sentence("6 a, or -a if it is below 0.0", BoundaryStepsTest::below);
        check.sentence("10 1.0 if a < b, else 0.0", BoundaryStepsTest::less);
        check.sentence("11 of three, a b c: b, if a is not 0.0, else c", BoundaryStepsTest::chosen);
        check.sentence("12 CUT(a, 0.0, 1.0)", BoundaryStepsTest::cut);
        check.sentence("13 ROOT(a) (0.0 and ERROR 4 when a is below 0.0)", BoundaryStepsTest::root);
        check.sentence("A text is right, if each step has what it takes", BoundaryStepsTest::takes);
        check.sentence("never more than 8 are there", BoundaryStepsTest::neverMore);
        check.sentence("and one is left", BoundaryStepsTest::oneLeft);
        check.sentence("The ERROR of a value is the first one that comes in it", BoundaryStepsTest::firstError);
        check.sentence("0 without one", BoundaryStepsTest::noError);
        check.end();
    }

    private static void due(Check check, ShadeRows x, int function, double t, double value, int error) {
        check.same("function " + function + " at " + t, x.value(function, t), value);
        check.same("its error", x.error(), error);
    }

    private static void atFirst(Check check) {
        ShadeRows x = new ShadeRows();
        check.same("a text without steps", Fixtures.text(x), 1);
        for (double t : Fixtures.good()) {
            due(check, x, 1, t, t, 0);
        }
        check.same("a step that needs two", Fixtures.text(x, 1, 0.0), 0);
        check.same("a step that needs one", Fixtures.text(x, 5, 0.0), 2);
        due(check, x, 2, 3.0, -3.0, 0);
        due(check, x, 2, 3.0, -3.0, 0);
        for (int i = 1; i <= 14; i++) {
            x.text(i <= 7 ? 0 : 1, i);
        }
        check.same("there is room for seven more", x.function(3, 0.0, 0.0, 0.0, 0.0), 3);
        due(check, x, 3, 100.0, 128.0, 0);
    }

    /** t and seven more, each seen by what the sums make of them. */
    private static void eight(Check check) {
        ShadeRows x = new ShadeRows();
        for (int i = 1; i <= 7; i++) {
            check.same("a number more", x.text(0, i == 7 ? 0.5 : i), i);
        }
        for (int i = 8; i <= 14; i++) {
            check.same("a difference", x.text(2, 0.0), i);
        }
        check.same("eight", x.function(3, 0.0, 0.0, 0.0, 0.0), 1);
        due(check, x, 1, 100.0, 100.0 - (1.0 - (2.0 - (3.0 - (4.0 - (5.0 - (6.0 - 0.5)))))), 0);
        for (int i = 1; i <= 8; i++) {
            x.text(0, i);
        }
        for (int i = 1; i <= 8; i++) {
            x.text(2, 0.0);
        }
        check.same("nine", x.function(3, 0.0, 0.0, 0.0, 0.0), 0);
    }

    private static void divisor(Check check) {
        ShadeRows x = new ShadeRows();
        Fixtures.text(x, 0, 6.0, 8, 0.0, 4, 0.0);
        due(check, x, 1, 0.0, 0.0, 3);
        due(check, x, 1, -0.0, 0.0, 3);
        due(check, x, 1, 2.0, 3.0, 0);
        due(check, x, 1, -2.0, -3.0, 0);
        Fixtures.text(x, 7, 0.0, 4, 0.0);
        due(check, x, 2, 0.0, 0.0, 3);
        due(check, x, 2, Double.MIN_VALUE, 1.0, 0);
        Fixtures.text(x, 0, 0.0, 4, 0.0, 0, 7.0, 1, 0.0);
        due(check, x, 3, 1000000.0, 7.0, 3);
    }

    private static void tooSmall(Check check) {
        beyond(check, -1.0);
    }

    private static void tooLarge(Check check) {
        beyond(check, 1.0);
    }

    /** Each of steps 1 to 4 comes to -1.0e12 or 1.0e12 itself, and then to the next number behind it. */
    private static void beyond(Check check, double sign) {
        ShadeRows x = new ShadeRows();
        double side = sign * 1000000.0;
        double edge = sign * 1.0e12;
        Fixtures.text(x, 0, side, 0, 1000000.0, 3, 0.0, 1, 0.0);
        due(check, x, 1, 0.0, edge, 0);
        due(check, x, 1, sign * HAIR, 0.0, 5);
        due(check, x, 1, side, 0.0, 5);
        Fixtures.text(x, 0, -side, 0, 1000000.0, 3, 0.0, 2, 0.0);
        due(check, x, 2, 0.0, edge, 0);
        due(check, x, 2, sign * HAIR, 0.0, 5);
        due(check, x, 2, side, 0.0, 5);
        Fixtures.text(x, 0, side, 0, 2.0, 3, 0.0, 3, 0.0);
        due(check, x, 3, 500000.0, edge, 0);
        due(check, x, 3, Math.nextUp(500000.0), 0.0, 5);
        due(check, x, 3, 1000000.0, 0.0, 5);
        Fixtures.text(x, 0, side, 0, 1000000.0, 3, 0.0, 8, 0.0, 4, 0.0);
        due(check, x, 4, 1.0, edge, 0);
        due(check, x, 4, Math.nextDown(1.0), 0.0, 5);
        due(check, x, 4, Double.MIN_VALUE, 0.0, 5);
        Fixtures.text(x, 0, side, 0, 1000000.0, 3, 0.0, 1, 0.0, 0, 7.0, 1, 0.0);
        due(check, x, 5, sign, 7.0, 5);
    }

    private static void below(Check check) {
        ShadeRows x = new ShadeRows();
        Fixtures.text(x, 6, 0.0);
        for (double t : new double[] {0.0, Double.MIN_VALUE, 0.5, 1000000.0}) {
            due(check, x, 1, t, t, 0);
            due(check, x, 1, -t, t, 0);
        }
    }

    private static void less(Check check) {
        ShadeRows x = new ShadeRows();
        Fixtures.text(x, 0, 4.0, 10, 0.0);
        due(check, x, 1, Math.nextDown(4.0), 1.0, 0);
        due(check, x, 1, 4.0, 0.0, 0);
        due(check, x, 1, Math.nextUp(4.0), 0.0, 0);
        due(check, x, 1, -4.0, 1.0, 0);
        Fixtures.text(x, 0, 0.0, 10, 0.0);
        due(check, x, 2, -0.0, 0.0, 0);
        due(check, x, 2, -Double.MIN_VALUE, 1.0, 0);
    }

    private static void chosen(Check check) {
        ShadeRows x = new ShadeRows();
        Fixtures.text(x, 0, 20.0, 0, 30.0, 11, 0.0);
        due(check, x, 1, 0.0, 30.0, 0);
        due(check, x, 1, -0.0, 30.0, 0);
        due(check, x, 1, Double.MIN_VALUE, 20.0, 0);
        due(check, x, 1, -Double.MIN_VALUE, 20.0, 0);
        due(check, x, 1, 1.0, 20.0, 0);
    }

    private static void cut(Check check) {
        ShadeRows x = new ShadeRows();
        Fixtures.text(x, 12, 0.0);
        due(check, x, 1, -1000000.0, 0.0, 0);
        due(check, x, 1, -Double.MIN_VALUE, 0.0, 0);
        due(check, x, 1, 0.0, 0.0, 0);
        due(check, x, 1, Double.MIN_VALUE, Double.MIN_VALUE, 0);
        due(check, x, 1, Math.nextDown(1.0), Math.nextDown(1.0), 0);
        due(check, x, 1, 1.0, 1.0, 0);
        due(check, x, 1, Math.nextUp(1.0), 1.0, 0);
        due(check, x, 1, 1000000.0, 1.0, 0);
    }

    private static void root(Check check) {
        ShadeRows x = new ShadeRows();
        Fixtures.text(x, 13, 0.0);
        due(check, x, 1, -1000000.0, 0.0, 4);
        due(check, x, 1, -Double.MIN_VALUE, 0.0, 4);
        due(check, x, 1, -0.0, 1.0 / 1099511627776.0, 0);
        due(check, x, 1, 0.0, 1.0 / 1099511627776.0, 0);
        due(check, x, 1, 9.0, 3.0, 0);
        Fixtures.text(x, 13, 0.0, 0, 7.0, 1, 0.0);
        due(check, x, 2, -9.0, 7.0, 4);
    }

    /** Each step where there is just enough for it, and where there are too few, though one would be left. */
    private static void takes(Check check) {
        int[] needs = {0, 2, 2, 2, 2, 1, 1, 1, 2, 1, 2, 3, 1, 1};
        int[] adds = {1, -1, -1, -1, -1, 0, 0, 1, 0, -1, -1, -2, 0, 0};
        for (int op = 0; op <= 13; op++) {
            for (int finds = 0; finds <= needs[op]; finds++) {
                ShadeRows x = new ShadeRows();
                bring(x, 1, finds);
                x.text(op, 1.0);
                bring(x, finds + adds[op], 1);
                check.same("step " + op + " on " + finds, x.function(3, 0.0, 0.0, 0.0, 0.0),
                        finds < needs[op] ? 0 : 1);
            }
        }
        ShadeRows x = new ShadeRows();
        check.same("too few in between", Fixtures.text(x, 9, 0.0, 9, 0.0, 0, 1.0, 0, 1.0), 0);
    }

    /** Steps that drop or put numbers, until there are as many as wanted. */
    private static void bring(ShadeRows x, int from, int to) {
        for (int i = from; i > to; i--) {
            x.text(9, 0.0);
        }
        for (int i = from; i < to; i++) {
            x.text(0, 1.0);
        }
    }

    /** Step 0 and step 7 can make a ninth; all others find room where there are eight. */
    private static void neverMore(Check check) {
        int[] adds = {1, -1, -1, -1, -1, 0, 0, 1, 0, -1, -1, -2, 0, 0};
        for (int op = 0; op <= 13; op++) {
            for (int depth = 7; depth <= 8; depth++) {
                ShadeRows x = new ShadeRows();
                for (int i = 1; i < depth; i++) {
                    x.text(7, 0.0);
                }
                x.text(op, 1.0);
                for (int i = depth + adds[op]; i > 1; i--) {
                    x.text(9, 0.0);
                }
                int due = depth == 8 && (op == 0 || op == 7) ? 0 : 1;
                check.same("step " + op + " on " + depth, x.function(3, 0.0, 0.0, 0.0, 0.0), due);
            }
        }
    }

    private static void oneLeft(Check check) {
        ShadeRows x = new ShadeRows();
        check.same("none is left", Fixtures.text(x, 9, 0.0), 0);
        check.same("two are left", Fixtures.text(x, 7, 0.0), 0);
        check.same("two are left, too", Fixtures.text(x, 0, 1.0, 8, 0.0), 0);
        check.same("eight are left", Fixtures.text(x, 7, 0.0, 7, 0.0, 7, 0.0, 7, 0.0, 7, 0.0, 7, 0.0, 7, 0.0), 0);
        check.same("one is left", Fixtures.text(x, 9, 0.0, 0, 5.0), 1);
        due(check, x, 1, 1.0, 5.0, 0);
    }

    /** Each error comes before another one, which does not count. */
    private static void firstError(Check check) {
        ShadeRows x = new ShadeRows();
        Fixtures.text(x, 0, 0.0, 4, 0.0, 0, -1.0, 13, 0.0, 1, 0.0);
        due(check, x, 1, 1.0, 0.0, 3);
        Fixtures.text(x, 0, -1.0, 13, 0.0, 4, 0.0);
        due(check, x, 2, 1.0, 0.0, 4);
        Fixtures.text(x, 0, 1000000.0, 3, 0.0, 0, 2.0, 3, 0.0, 0, 0.0, 4, 0.0);
        due(check, x, 3, 1000000.0, 0.0, 5);
        due(check, x, 3, 1.0, 0.0, 3);
        x.function(1, 0.0, 1.0, 0.0, 0.0);
        x.function(2, 4.0, 2.0, 0.5, 0.0);
        due(check, x, 5, 0.0, 1.0, 2);
        due(check, x, 5, 0.5, 0.0, 4);
    }

    private static void noError(Check check) {
        ShadeRows x = new ShadeRows();
        x.function(0, 2.0, 0.0, 1.0, 0.0);
        x.function(1, 0.0, 1.0, 0.0, 0.0);
        x.function(2, 2.0, 1.0, 0.5, 0.0);
        Fixtures.text(x, 0, 1.0, 8, 0.0, 4, 0.0);
        due(check, x, 1, -5.0, 0.0, 0);
        due(check, x, 2, 0.0, 1.0, 2);
        due(check, x, 2, 0.5, 1.0, 0);
        due(check, x, 3, 0.0, 1.0, 2);
        due(check, x, 3, 0.5, 0.0, 0);
        due(check, x, 4, 0.0, 0.0, 3);
        due(check, x, 4, 4.0, 0.25, 0);
    }
}
