public final class Promise02TextTest {
    public static void main(String[] args) {
        Check check = new Check("promise 2");
        refusals(check);
        limit(check);
        stepsStayForOtherKinds(check);
        check.end();
    }

    private static void refusals(Check check) {
        ShadeRows x = new ShadeRows();
        check.same("text(-1)", x.text(-1, 0.0), 0);
        check.same("text(14)", x.text(14, 0.0), 0);
        check.same("text(least int)", x.text(Integer.MIN_VALUE, 0.0), 0);
        check.same("text(greatest int)", x.text(Integer.MAX_VALUE, 0.0), 0);
        check.same("no number", x.text(0, Double.NaN), 0);
        check.same("endless", x.text(0, Double.POSITIVE_INFINITY), 0);
        check.same("endless below", x.text(0, Double.NEGATIVE_INFINITY), 0);
        check.same("above good", x.text(0, Math.nextUp(1000000.0)), 0);
        check.same("below good", x.text(0, Math.nextDown(-1000000.0)), 0);
        check.same("not good with a step that has no number", x.text(5, 2000000.0), 0);
        check.same("the last that is good", x.text(0, 1000000.0), 1);
        check.same("the first that is good", x.text(0, -1000000.0), 2);
        check.same("a step of two", x.text(1, 0.0), 3);
        check.same("another", x.text(1, 0.0), 4);
        check.same("the refused ones are not there", x.function(3, 0.0, 0.0, 0.0, 0.0), 1);
        check.same("nor in the value", x.value(1, 3.0), 3.0);
    }

    private static void limit(Check check) {
        for (int op = 0; op <= 13; op++) {
            ShadeRows x = new ShadeRows();
            for (int i = 1; i <= 24; i++) {
                check.same("step " + i + " of op " + op, x.text(op, 1.0), i);
            }
            check.same("a step more of op " + op, x.text(op, 1.0), 0);
        }
        ShadeRows x = new ShadeRows();
        for (int i = 1; i <= 24; i++) {
            x.text(i == 24 ? 5 : 6, 0.0);
        }
        x.text(5, 0.0);
        check.same("a text of 24", x.function(3, 0.0, 0.0, 0.0, 0.0), 1);
        check.same("the step that was refused is not taken", x.value(1, 2.0), -2.0);
    }

    private static void stepsStayForOtherKinds(Check check) {
        ShadeRows x = new ShadeRows();
        x.text(5, 0.0);
        check.same("a power", x.function(1, 0.0, 1.0, 1.0, 0.0), 1);
        check.same("no kind", x.function(4, 0.0, 1.0, 1.0, 0.0), 0);
        check.same("the step is still there", x.text(5, 0.0), 2);
        x.text(5, 0.0);
        check.same("the text", x.function(3, 0.0, 0.0, 0.0, 0.0), 2);
        check.same("three times the other sign", x.value(2, 2.0), -2.0);
        check.same("steps are gone", x.text(5, 0.0), 1);
    }
}
