/** Promise 20: what is told of the hall. */
public final class Promise20CountTest {
    public static void main(String[] args) {
        IceHall x = new IceHall();
        x.most(210);
        x.compressors(2);
        x.rest(7);
        for (int clock = 0; clock < 24; clock++) {
            x.price(clock, 99 - clock);
        }
        x.book(0, 0, 0, 0);
        x.book(0, 0, 1, 9);
        x.cancel(1);
        x.feed(0, 0, 0, 0, 0);
        x.feed(0, 0, 0, 0, 0);
        x.step(0, 2);
        row(x, 1, 206, 30, 198, 0, 2, 210, 2, 7, 40);
        x.most(10);
        x.cut(1, 0, 20);
        x.step(0, 1);
        row(x, 2, 1, 246, 296, 17, 2, 10, 2, 7, 40);
        for (int clock = 0; clock < 24; clock++) {
            Due.is("PRICE of " + clock, x.count(10 + clock), 99 - clock);
        }
        for (int bad : new int[] {-1, 34, 100, Integer.MIN_VALUE, Integer.MAX_VALUE}) {
            Due.is("count " + bad, x.count(bad), -1);
        }
        Due.end();
    }

    private static void row(IceHall x, int... want) {
        for (int what = 0; what < want.length; what++) {
            Due.is("count " + what + " in hour " + x.count(0), x.count(what), want[what]);
        }
    }
}
