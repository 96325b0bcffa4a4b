/** Part 3 of the terms, the plan and the fair parts: their bounds. */
public final class Terms3PlanTest {
    public static void main(String[] args) {
        soManyHours();
        everyWarmth();
        lacksByOne();
        spiltByOne();
        noMoreThanWork();
        allOnInAllHours();
        heatOfWhatStands();
        heatOfWhatWillBeLost();
        closedSheetsWantToo();
        pricesOfTheirClocks();
        theLatestPlan();
        penceOfParts();
        partsOfClubsWithoutSessions();
        Due.end();
    }

    private static void row(IceHall x, int... want) {
        for (int i = 0; i < want.length; i++) {
            Due.is("planned " + i, x.planned(i), want[i]);
        }
        Due.is("planned behind", x.planned(want.length), -1);
        Due.is("planned ahead", x.planned(-1), -1);
    }

    /** A hall without cold. */
    private static IceHall empty() {
        IceHall x = new IceHall();
        Due.steps(x, 5, 40, 0);
        Due.is("STORE", x.count(1), 0);
        return x;
    }

    private static void soManyHours() {
        for (int n = -1; n <= 10; n++) {
            IceHall x = empty();
            boolean can = n >= 1 && n <= 8;
            Due.is("plan of " + n, x.plan(n, 20), can ? 10 * n : -1);
            for (int i = -1; i <= 10; i++) {
                Due.is("planned " + i + " of " + n, x.planned(i), can && i >= 0 && i < n ? 1 : -1);
            }
        }
    }

    private static void everyWarmth() {
        for (int warmth = -22; warmth <= 42; warmth++) {
            IceHall x = empty();
            int wanted = warmth < 0 ? 0 : warmth / 2 * 2;
            int on = (wanted + 19) / 20;
            boolean can = warmth >= -20 && warmth <= 40;
            Due.is("plan with " + warmth, x.plan(1, warmth), can ? 10 * on : -1);
            Due.is("planned", x.planned(0), can ? on : -1);
        }
    }

    private static void lacksByOne() {
        IceHall x = empty();
        x.book(0, 1, 0, 5);
        Due.is("19 are wanted", x.plan(1, 10), 10);
        Due.is("21 are wanted", x.plan(1, 12), 20);
        row(x, 2);
        Due.is("41 are wanted", x.plan(1, 32), 30);
        x.compressors(2);
        Due.is("39 are wanted, 40 can be", x.plan(1, 30), 20);
        Due.is("41 are wanted, 40 can be", x.plan(1, 32), -1);
        row(x, 2);
        x.compressors(1);
        Due.is("21 are wanted, 20 can be", x.plan(1, 12), -1);
        x.compressors(0);
        Due.is("9 are wanted, 0 can be", x.plan(1, 0), -1);
        x.cancel(0);
        Due.is("0 are wanted, 0 can be", x.plan(1, 0), 0);
        row(x, 0);
    }

    private static void spiltByOne() {
        // Of 219, 220 and 221, with one in hour 0 that costs nothing and is needed in hour 7.
        for (int most = 219; most <= 221; most++) {
            IceHall x = new IceHall();
            x.most(most);
            x.price(0, 0);
            Due.is("plan with MOST " + most, x.plan(8, 26), most < 220 ? 10 : 0);
            Due.is("planned", x.planned(0), most < 220 ? 0 : 1);
        }
        for (int most = 198; most <= 201; most++) {
            IceHall x = new IceHall();
            x.most(most);
            Due.is("more in store than MOST " + most, x.plan(1, 40), most < 200 ? -1 : 0);
        }
    }

    private static void noMoreThanWork() {
        int[] costs = {-1, -1, 60, 60};
        for (int working = 0; working <= 3; working++) {
            IceHall x = new IceHall();
            x.compressors(working);
            x.step(40, 0);
            x.step(40, 0);
            x.step(40, 0);
            // 80 are there and 200 are wanted in five hours.
            Due.is("plan with " + working, x.plan(5, 40), costs[working]);
            for (int i = 0; i < 5; i++) {
                Due.yes("planned " + i, x.planned(i) <= working);
            }
        }
    }

    private static void allOnInAllHours() {
        IceHall x = empty();
        x.rest(12);
        for (int hour = 5; hour < 13; hour++) {
            x.book(0, 1, 0, hour);
            x.book(1, 1, 1, hour);
        }
        // 58 are wanted in each hour, and 23 hours of compressors give but 460 of the 464.
        Due.is("plan", x.plan(8, 40), 240);
        row(x, 3, 3, 3, 3, 3, 3, 3, 3);
        x.compressors(2);
        Due.is("plan with two", x.plan(1, 40), -1);
        row(x, 3, 3, 3, 3, 3, 3, 3, 3);
    }

    private static void heatOfWhatStands() {
        IceHall x = empty();
        x.book(0, 1, 0, 6);
        x.book(0, 1, 1, 7);
        x.book(0, 1, 0, 50);
        Due.is("plan", x.plan(3, 0), 10);
        row(x, 0, 1, 0);
        Due.is("close", x.close(0, 6, 7), 0);
        Due.is("HOUR of what was moved", x.look(0, 3), 6);
        Due.is("plan", x.plan(1, 0), 0);
        Due.is("plan", x.plan(2, 0), 10);
        x.cancel(0);
        Due.is("plan", x.plan(2, 0), 0);
        Due.is("plan", x.plan(3, 0), 10);
        x.close(0, 5, 20);
        Due.is("left out", x.close(1, 5, 20), 1);
        Due.is("what is left out wants none", x.plan(3, 0), 0);
    }

    private static void heatOfWhatWillBeLost() {
        IceHall x = Terms1IceTest.thin(0, 100);
        x.most(400);
        x.book(0, 2, 0, x.count(0));
        Due.is("plan", x.plan(1, 0), 10);
        row(x, 1);
        x.step(0, 1);
        Due.is("LOST", x.look(0, 4), 2);
        Due.is("STORE", x.count(1), 14);
        Due.is("what went by wants none", x.plan(1, 14), 0);
    }

    private static void closedSheetsWantToo() {
        IceHall x = empty();
        x.close(0, 5, 20);
        x.close(1, 5, 20);
        Due.is("plan", x.plan(1, 40), 20);
    }

    private static void pricesOfTheirClocks() {
        IceHall x = empty();
        Due.steps(x, 15, 0, 0);
        for (int clock = 0; clock < 24; clock++) {
            x.price(clock, clock == 0 ? 99 : clock);
        }
        // Clocks 20 21 22 23 0 1, each dearer than the one before, but for the last.
        Due.is("plan", x.plan(6, 20), 3 * 20 + 2 * 21 + 1);
        row(x, 3, 2, 0, 0, 0, 1);
    }

    private static void theLatestPlan() {
        IceHall x = empty();
        Due.is("plan", x.plan(2, 40), 40);
        row(x, 2, 2);
        int[][] refused = {{0, 40}, {9, 40}, {1, 41}, {1, -21}};
        for (int[] call : refused) {
            Due.is("plan", x.plan(call[0], call[1]), -1);
            row(x, 2, 2);
        }
        x.compressors(1);
        Due.is("there is none", x.plan(3, 40), -1);
        row(x, 2, 2);
        x.step(0, 1);
        row(x, 2, 2);
        Due.is("plan", x.plan(1, 0), 0);
        row(x, 0);
    }

    private static void penceOfParts() {
        IceHall x = new IceHall();
        x.book(0, 0, 0, 0);
        x.book(1, 0, 1, 0);
        x.step(0, 0);
        for (int c = 0; c < 6; c++) {
            Due.is("pence -1 of " + c, x.part(c, -1), -1);
            Due.is("pence 100001 of " + c, x.part(c, 100001), -1);
            Due.is("pence 0 of " + c, x.part(c, 0), 0);
            Due.is("pence 100000 of " + c, x.part(c, 100000), c < 2 ? 50000 : 0);
        }
        Due.is("the odd one", x.part(0, 99999), 50000);
        Due.is("the odd one", x.part(1, 99999), 49999);
        for (int c : new int[] {-1, 6}) {
            Due.is("club " + c, x.part(c, 10), -1);
        }
    }

    private static void partsOfClubsWithoutSessions() {
        IceHall x = new IceHall();
        x.book(0, 0, 0, 9);
        x.book(1, 0, 0, 11);
        x.cancel(1);
        for (int c = -1; c <= 6; c++) {
            Due.is("nothing was HELD, club " + c, x.part(c, 100), -1);
            Due.is("nothing was HELD, no pence", x.part(c, 0), -1);
        }
        IceHall y = Terms1IceTest.thin(0, 150);
        y.book(0, 0, 0, y.count(0));
        y.step(0, 0);
        Due.is("LOST", y.club(0, 1), 1);
        Due.is("one LOST is none HELD", y.part(0, 100), -1);
    }
}
