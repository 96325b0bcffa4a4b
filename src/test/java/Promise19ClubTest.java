/** Promise 19: what is told of a club. */
public final class Promise19ClubTest {
    public static void main(String[] args) {
        IceHall x = new IceHall();
        x.rest(12);
        Due.tell(x, 2, "f11;c100");
        Due.tell(x, 5, "f1000");
        for (int i = 0; i < 5; i++) {
            x.book(2, 1, 0, i);
            x.book(5, 3, 1, i);
        }
        row(x, 2, 0, 0, 5, 0);
        row(x, 5, 0, 0, 5, 0);
        x.cancel(8);
        row(x, 2, 0, 0, 4, 11);
        Due.steps(x, 4, 0, 0);
        row(x, 2, 3, 1, 0, 44);
        row(x, 5, 4, 0, 1, 4000);
        x.cancel(9);
        row(x, 5, 4, 0, 0, 4500);
        x.book(5, 3, 1, 50);
        x.close(0, 40, 60);
        x.close(1, 40, 60);
        row(x, 5, 4, 0, 0, 4500);
        row(x, 0, 0, 0, 0, 0);
        for (int bad : new int[] {-1, 6, Integer.MIN_VALUE, Integer.MAX_VALUE}) {
            for (int what = 0; what < 4; what++) {
                Due.is("club " + bad + " " + what, x.club(bad, what), -1);
            }
        }
        for (int bad : new int[] {-1, 4, Integer.MIN_VALUE, Integer.MAX_VALUE}) {
            Due.is("club 0 " + bad, x.club(0, bad), -1);
        }
        Due.end();
    }

    private static void row(IceHall x, int c, int... want) {
        for (int what = 0; what < want.length; what++) {
            Due.is("club " + c + " " + what, x.club(c, what), want[what]);
        }
    }
}
