/** Promise 13: the cheapest plan. */
public final class Promise13PlanTest {
    public static void main(String[] args) {
        numbersThatAreAndAreNot();
        nothingIsNeeded();
        cheapHoursAreTaken();
        fewestHoursOfLikeCost();
        leastRowOfLikeOnes();
        nothingMayBeSpilt();
        nothingMayLack();
        sessionsWantTheirHeat();
        cutsAreNotLookedAt();
        clocksGoRoundTheDay();
        planChangesNothingElse();
        atTheLastHour();
        Due.end();
    }

    private static void row(IceHall x, int... want) {
        for (int i = 0; i < want.length; i++) {
            Due.is("planned " + i, x.planned(i), want[i]);
        }
        Due.is("planned behind", x.planned(want.length), -1);
    }

    private static void numbersThatAreAndAreNot() {
        IceHall x = new IceHall();
        Due.is("plan", x.plan(3, 0), 0);
        int[][] wrong = {{0, 0}, {9, 0}, {-1, 0}, {1, -21}, {1, 41}, {Integer.MAX_VALUE, 0}, {Integer.MIN_VALUE, 0},
            {1, Integer.MAX_VALUE}, {1, Integer.MIN_VALUE}};
        int[] before = Due.state(x);
        for (int[] call : wrong) {
            Due.is("plan " + call[0] + " " + call[1], x.plan(call[0], call[1]), -1);
        }
        Due.same("refused plan", before, Due.state(x));
        Due.is("plan 1 -20", x.plan(1, -20), 0);
        Due.is("plan 8 40", x.plan(8, 40), 60);
    }

    private static void nothingIsNeeded() {
        IceHall x = new IceHall();
        Due.is("plan", x.plan(8, 25), 0);
        row(x, 0, 0, 0, 0, 0, 0, 0, 0);
    }

    private static void cheapHoursAreTaken() {
        IceHall x = new IceHall();
        x.price(2, 1);
        x.price(3, 2);
        x.price(0, 99);
        // 320 are wanted and 200 are there: six, three of them at 1 and three at 2.
        Due.is("plan", x.plan(8, 40), 9);
        row(x, 0, 0, 3, 3, 0, 0, 0, 0);
        x.compressors(2);
        Due.is("plan with two", x.plan(8, 40), 2 + 4 + 20);
        row(x, 0, 0, 2, 2, 0, 0, 0, 2);
    }

    private static void fewestHoursOfLikeCost() {
        IceHall x = new IceHall();
        for (int clock = 0; clock < 24; clock++) {
            x.price(clock, 0);
        }
        Due.is("plan", x.plan(8, 40), 0);
        row(x, 0, 0, 0, 0, 0, 2, 2, 2);
        Due.is("plan", x.plan(8, 0), 0);
        row(x, 0, 0, 0, 0, 0, 0, 0, 0);
    }

    private static void leastRowOfLikeOnes() {
        IceHall x = new IceHall();
        x.step(40, 0);
        // 160 are there, 280 are wanted: six at the latest hours that do, for 40 go in each hour.
        Due.is("plan", x.plan(7, 40), 60);
        row(x, 0, 0, 0, 0, 2, 2, 2);
        x.price(6, 9);
        Due.is("plan", x.plan(7, 40), 57);
        row(x, 0, 0, 0, 0, 2, 3, 1);
    }

    private static void nothingMayBeSpilt() {
        IceHall x = new IceHall();
        x.most(200);
        x.price(0, 0);
        // The store is full, so the cheap hour can't be used.
        Due.is("plan", x.plan(8, 40), 60);
        row(x, 0, 0, 0, 0, 0, 2, 2, 2);
        x.most(219);
        Due.is("plan", x.plan(8, 40), 60);
        x.most(220);
        Due.is("plan", x.plan(8, 40), 50);
        row(x, 1, 0, 0, 0, 0, 1, 2, 2);
        x.most(199);
        Due.is("more is there than may be", x.plan(1, 0), -1);
        row(x, 1, 0, 0, 0, 0, 1, 2, 2);
        x.most(200);
        Due.is("just as much", x.plan(1, 0), 0);
    }

    private static void nothingMayLack() {
        IceHall x = new IceHall();
        Due.steps(x, 5, 40, 0);
        Due.is("STORE", x.count(1), 0);
        Due.is("plan", x.plan(1, 40), 20);
        row(x, 2);
        Due.is("plan", x.plan(2, 31), 30);
        row(x, 2, 1);
        x.compressors(1);
        Due.is("there is none", x.plan(1, 40), -1);
        row(x, 2, 1);
        Due.is("just enough", x.plan(1, 21), 10);
        x.compressors(0);
        Due.is("there is none", x.plan(1, 2), -1);
        Due.is("nothing is wanted", x.plan(8, 1), 0);
    }

    private static void sessionsWantTheirHeat() {
        IceHall x = new IceHall();
        Due.steps(x, 5, 40, 0);
        int[] heat = {4, 9, 6, 2};
        for (int kind = 0; kind < 4; kind++) {
            x.book(0, kind, kind % 2, 6 + 3 * kind);
            Due.is("ahead of it", x.plan(1, 0), 0);
            x.step(0, 0);
            Due.is("HOUR", x.count(0), 6 + 3 * kind);
            Due.is("its hour", x.plan(1, 0), 10);
            Due.is("with what it leaves", x.plan(1, 20 - 2), 10 * ((18 + heat[kind] + 19) / 20));
            Due.is("till then", x.plan(1, 0), 10);
            x.cancel(kind);
            Due.is("cancelled", x.plan(1, 0), 0);
            Due.steps(x, 2, 0, 0);
        }
        x.book(0, 1, 0, 20);
        x.book(1, 1, 1, 20);
        x.book(1, 0, 1, 21);
        Due.is("both sheets", x.plan(5, 0), 20);
        row(x, 0, 0, 0, 1, 1);
    }

    private static void cutsAreNotLookedAt() {
        IceHall x = new IceHall();
        Due.steps(x, 5, 40, 0);
        x.cut(0, 20, 20);
        Due.is("plan", x.plan(2, 0), 0);
    }

    private static void clocksGoRoundTheDay() {
        IceHall x = new IceHall();
        Due.steps(x, 5, 40, 0);
        Due.steps(x, 17, 0, 0);
        Due.is("NOW", x.count(0), 22);
        x.price(0, 3);
        x.price(23, 7);
        x.price(22, 5);
        Due.is("plan", x.plan(4, 20), 5 + 5 + 3 * 2);
        row(x, 2, 0, 2, 0);
    }

    private static void planChangesNothingElse() {
        IceHall x = new IceHall();
        x.book(0, 1, 0, 0);
        x.plan(2, 40);
        int[] before = Due.state(x);
        Due.is("plan", x.plan(2, 40), 0);
        Due.same("a plan", before, Due.state(x));
    }

    private static void atTheLastHour() {
        IceHall x = new IceHall();
        Due.steps(x, 990, 0, 0);
        Due.is("plan", x.plan(8, 40), 60);
        row(x, 0, 0, 0, 0, 0, 2, 2, 2);
    }
}
