import java.util.NoSuchElementException;

public final class Promise01NewObjectTest {
    public static void main(String[] args) {
        Check check = new Check("promise 1");
        ShadeRows x = new ShadeRows();
        check.same("error() at first", x.error(), 0);
        for (int i = -1; i <= 25; i++) {
            int n = i;
            check.raises("value(" + n + ") at first", NoSuchElementException.class, () -> x.value(n, 0.0));
            check.raises("sample(" + n + ") at first", NoSuchElementException.class, () -> x.sample(n, 0, 0));
            check.raises("pieces(" + n + ") at first", NoSuchElementException.class, () -> x.pieces(n));
        }
        check.same("the first step", x.text(9, 0.0), 1);
        check.same("the first function", x.function(1, 0.0, 1.0, 1.0, 0.0), 1);
        check.same("the first shading", x.shading(4, 0.0, 0.0, 0.0, 0.0, 0.0, 0.0), 1);
        ShadeRows other = new ShadeRows();
        check.same("another object's first function", other.function(3, 0.0, 0.0, 0.0, 0.0), 1);
        check.same("without steps its value is t", other.value(1, 7.5), 7.5);
        check.end();
    }
}
