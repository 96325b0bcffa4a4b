/** Promise 16: what is told of a session. */
public final class Promise16LookTest {
    public static void main(String[] args) {
        IceHall x = new IceHall();
        Due.tell(x, 4, "f222;c30");
        Due.is("book", x.book(4, 2, 1, 77), 0);
        row(x, 0, 4, 2, 1, 77, 0, 0, 222, 0, 0);
        Due.is("close", x.close(1, 77, 78), 0);
        row(x, 0, 4, 2, 0, 77, 0, 0, 222, 0, 1);
        Due.is("close", x.close(0, 77, 79), 0);
        row(x, 0, 4, 2, 0, 76, 0, 0, 222, 0, 2);
        Due.yes("cancel", x.cancel(0));
        row(x, 0, 4, 2, 0, 76, 3, 0, 222, 66, 2);
        Due.is("book", x.book(3, 1, 0, 0), 1);
        Due.is("book", x.book(3, 1, 0, 1), 2);
        x.rest(12);
        Due.is("book", x.book(3, 1, 0, 2), 3);
        Due.is("book", x.book(3, 1, 0, 3), 4);
        Due.steps(x, 4, 0, 0);
        row(x, 1, 3, 1, 0, 0, 1, 0, 100, 100, 0);
        row(x, 4, 3, 1, 0, 3, 2, 3, 100, 0, 0);
        Due.is("book", x.book(5, 3, 1, 30), 5);
        x.close(0, 20, 40);
        Due.is("close", x.close(1, 20, 40), 1);
        row(x, 5, 5, 3, 1, 30, 4, 0, 100, 0, 0);
        for (int bad : new int[] {-1, 6, 200, Integer.MIN_VALUE, Integer.MAX_VALUE}) {
            for (int what = 0; what < 9; what++) {
                Due.is("look " + bad + " " + what, x.look(bad, what), -1);
            }
        }
        for (int bad : new int[] {-1, 9, Integer.MIN_VALUE, Integer.MAX_VALUE}) {
            Due.is("look 0 " + bad, x.look(0, bad), -1);
        }
        Due.end();
    }

    private static void row(IceHall x, int b, int... want) {
        for (int what = 0; what < want.length; what++) {
            Due.is("look " + b + " " + what, x.look(b, what), want[what]);
        }
    }
}
