/** Promise 18: what is told of a sheet. */
public final class Promise18SheetTest {
    public static void main(String[] args) {
        IceHall x = new IceHall();
        x.book(0, 1, 1, 0);
        x.cut(0, 7, 9);
        x.close(1, 1, 3);
        x.step(40, 0);
        row(x, 0, 302, 0, 7, 9, 0, 0);
        row(x, 1, 300, 30, 0, 0, 0, 1);
        x.most(30);
        x.step(40, 0);
        row(x, 0, 302, 0, 7, 9, 0, 0);
        row(x, 1, 290, 30, 0, 0, 10, 1);
        x.cut(1, 2, 20);
        x.step(0, 1);
        row(x, 1, 290, 30, 0, 0, 10, 0);
        x.step(0, 1);
        row(x, 1, 290 - 2 + 10, 10, 2, 10, 10, 0);
        Due.is("what did not freeze", x.count(4), 10);
        for (int bad : new int[] {-1, 2, Integer.MIN_VALUE, Integer.MAX_VALUE}) {
            for (int what = 0; what < 6; what++) {
                Due.is("sheet " + bad + " " + what, x.sheet(bad, what), -1);
            }
        }
        for (int bad : new int[] {-1, 6, Integer.MIN_VALUE, Integer.MAX_VALUE}) {
            Due.is("sheet 0 " + bad, x.sheet(0, bad), -1);
        }
        Due.end();
    }

    private static void row(IceHall x, int s, int... want) {
        for (int what = 0; what < want.length; what++) {
            Due.is("sheet " + s + " " + what + " in hour " + x.count(0), x.sheet(s, what), want[what]);
        }
    }
}
