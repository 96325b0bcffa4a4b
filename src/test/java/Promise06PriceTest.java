/** Promise 6: the PRICE of a CLOCK, 0 to 99. */
public final class Promise06PriceTest {
    public static void main(String[] args) {
        numbersThatAreAndAreNot();
        costGoesByTheClock();
        Due.end();
    }

    private static void numbersThatAreAndAreNot() {
        IceHall x = new IceHall();
        for (int clock = 0; clock < 24; clock++) {
            Due.yes("price of " + clock, x.price(clock, clock * 3));
        }
        for (int clock = 0; clock < 24; clock++) {
            Due.is("PRICE of " + clock, x.count(10 + clock), clock * 3);
        }
        Due.yes("price 99", x.price(23, 99));
        Due.yes("price 0", x.price(0, 0));
        int[] before = Due.state(x);
        int[][] wrong = {{-1, 5}, {24, 5}, {5, -1}, {5, 100}, {Integer.MAX_VALUE, 5}, {Integer.MIN_VALUE, 5},
            {5, Integer.MAX_VALUE}, {5, Integer.MIN_VALUE}};
        for (int[] call : wrong) {
            Due.no("price " + call[0] + " " + call[1], x.price(call[0], call[1]));
            Due.same("refused price", before, Due.state(x));
        }
    }

    private static void costGoesByTheClock() {
        IceHall x = new IceHall();
        int cost = 0;
        for (int clock = 0; clock < 24; clock++) {
            x.price(clock, 50 + clock);
        }
        for (int hour = 0; hour < 60; hour++) {
            int on = hour % 4;
            cost += on * (50 + hour % 24);
            Due.is("step", x.step(0, on), hour + 1);
            Due.is("COST", x.count(3), cost);
        }
    }
}
