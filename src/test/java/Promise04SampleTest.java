import java.util.NoSuchElementException;

public final class Promise04SampleTest {
    public static void main(String[] args) {
        Check check = new Check("promise 4");
        ShadeRows x = new ShadeRows();
        x.function(0, 3.0, 0.0, 1.0, 0.0);
        x.function(1, 0.0, 1.0, 1.0, 0.0);
        x.function(2, 1.0, 1.0, 0.5, 0.0);
        x.function(3, 0.0, 0.0, 0.0, 0.0);
        check.same("at first 0", x.sample(1, 0, 255), 0);
        check.same("what it was", x.sample(1, 0, 256), 255);
        check.same("the lowest bits of 256", x.sample(1, 0, 300), 0);
        check.same("the lowest bits of 300", x.sample(1, 0, -1), 44);
        check.same("the lowest bits of -1", x.sample(1, 0, Integer.MIN_VALUE), 255);
        check.same("the lowest bits of the least int", x.sample(1, 0, 51), 0);
        check.same("the last one", x.sample(1, 2, 102), 0);
        check.same("the middle one", x.sample(1, 1, 7), 0);
        check.same("others stay", x.sample(1, 0, 51), 51);
        check.same("value at its begin", x.value(1, 0.0), 51 / 255.0);
        check.same("value at its end", x.value(1, 1.0), 102 / 255.0);
        check.same("a stitched function sees them", x.value(3, 0.0), 51 / 255.0);

        for (int n : new int[] {0, -1, 5, 25, Integer.MAX_VALUE, Integer.MIN_VALUE}) {
            check.raises("no function " + n, NoSuchElementException.class, () -> x.sample(n, 0, 1));
            check.raises("no function nor sample " + n, NoSuchElementException.class, () -> x.sample(n, 9, 1));
        }
        for (int n = 2; n <= 4; n++) {
            int other = n;
            check.raises("another kind " + n, NoSuchElementException.class, () -> x.sample(other, 0, 1));
            check.raises("another kind, no sample " + n, NoSuchElementException.class, () -> x.sample(other, -1, 1));
        }
        for (int i : new int[] {-1, 3, 16, Integer.MAX_VALUE, Integer.MIN_VALUE}) {
            check.raises("no sample " + i, ArrayIndexOutOfBoundsException.class, () -> x.sample(1, i, 1));
        }
        check.same("a throw changes nothing", x.sample(1, 1, 0), 7);

        ShadeRows longest = new ShadeRows();
        longest.function(0, 16.0, 0.0, 1.0, 0.0);
        check.same("sample 15 of 16", longest.sample(1, 15, 9), 0);
        check.same("sample 15 of 16 again", longest.sample(1, 15, 8), 9);
        check.raises("sample 16 of 16", ArrayIndexOutOfBoundsException.class, () -> longest.sample(1, 16, 9));
        check.end();
    }
}
