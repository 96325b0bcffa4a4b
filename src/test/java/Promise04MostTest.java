/** Promise 4: MOST, 1 to 2000; what is in store above it stays till the next hour. */
public final class Promise04MostTest {
    public static void main(String[] args) {
        numbersThatAreAndAreNot();
        storeAboveStaysTillTheNextHour();
        whatIsAboveIsSpilt();
        Due.end();
    }

    private static void numbersThatAreAndAreNot() {
        IceHall x = new IceHall();
        for (int n : new int[] {1, 2000, 399, 1000}) {
            Due.yes("most " + n, x.most(n));
            Due.is("MOST", x.count(6), n);
        }
        int[] before = Due.state(x);
        for (int n : new int[] {0, -1, 2001, Integer.MIN_VALUE, Integer.MAX_VALUE}) {
            Due.no("most " + n, x.most(n));
            Due.same("refused most", before, Due.state(x));
        }
    }

    private static void storeAboveStaysTillTheNextHour() {
        IceHall x = new IceHall();
        Due.yes("most", x.most(50));
        Due.is("STORE", x.count(1), 200);
        Due.is("SPILT", x.count(2), 0);
        Due.yes("most", x.most(120));
        Due.is("step", x.step(0, 0), 1);
        Due.is("STORE", x.count(1), 120);
        Due.is("SPILT", x.count(2), 80);
    }

    private static void whatIsAboveIsSpilt() {
        IceHall x = new IceHall();
        Due.yes("most", x.most(230));
        Due.is("step", x.step(10, 3), 1);
        Due.is("SPILT ahead of what is wanted", x.count(2), 30);
        Due.is("STORE", x.count(1), 220);
        Due.is("step", x.step(0, 1), 2);
        Due.is("SPILT in all", x.count(2), 40);
        Due.is("STORE", x.count(1), 230);
        Due.yes("most", x.most(2000));
        Due.is("step", x.step(0, 3), 3);
        Due.is("STORE", x.count(1), 290);
        Due.is("SPILT in all", x.count(2), 40);
    }
}
