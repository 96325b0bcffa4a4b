/** Promise 12: an hour goes by, in the order of its four parts, sheet 0 ahead of sheet 1. */
public final class Promise12StepTest {
    public static void main(String[] args) {
        numbersThatAreAndAreNot();
        warmthIsHalvedAndRoundedDown();
        heatAndRutsOfKinds();
        whatLacksMelts();
        sheetZeroFirst();
        lostByThinIce();
        lostByThickIce();
        lostByRuts();
        thinComesFirst();
        lostWantsHeatToo();
        closedSheetsWantColdToo();
        Due.end();
    }

    private static void numbersThatAreAndAreNot() {
        IceHall x = new IceHall();
        x.compressors(2);
        int[] before = Due.state(x);
        int[][] wrong = {{-21, 0}, {41, 0}, {0, -1}, {0, 3}, {Integer.MIN_VALUE, 0}, {Integer.MAX_VALUE, 0},
            {0, Integer.MIN_VALUE}, {0, Integer.MAX_VALUE}};
        for (int[] call : wrong) {
            Due.is("step " + call[0] + " " + call[1], x.step(call[0], call[1]), -1);
        }
        Due.same("refused step", before, Due.state(x));
        Due.is("step -20", x.step(-20, 0), 1);
        Due.is("step 40", x.step(40, 2), 2);
        for (int now = 3; now <= 990; now++) {
            Due.is("step", x.step(0, 0), now);
        }
        before = Due.state(x);
        Due.is("none goes by any more", x.step(0, 0), -1);
        Due.same("refused step", before, Due.state(x));
    }

    private static void warmthIsHalvedAndRoundedDown() {
        for (int warmth = -20; warmth <= 40; warmth++) {
            IceHall x = new IceHall();
            x.step(warmth, 0);
            Due.is("STORE at " + warmth, x.count(1), 200 - 2 * (warmth < 0 ? 0 : warmth / 2));
        }
    }

    private static void heatAndRutsOfKinds() {
        int[] ruts = {10, 30, 20, 5};
        int[] heat = {4, 9, 6, 2};
        for (int kind = 0; kind < 4; kind++) {
            for (int s = 0; s < 2; s++) {
                IceHall x = new IceHall();
                x.book(1, kind, s, 0);
                x.step(7, 1);
                Due.is("STORE", x.count(1), 200 + 20 - 6 - heat[kind]);
                Due.is("RUTS", x.sheet(s, 1), ruts[kind]);
                Due.is("RUTS of the other", x.sheet(1 - s, 1), 0);
                Due.is("HELD", x.look(0, 4), 1);
                Due.is("why", x.look(0, 5), 0);
                Due.is("owes", x.look(0, 7), 100);
                Due.is("at", x.at(s, 0), 0);
            }
        }
    }

    private static void whatLacksMelts() {
        IceHall x = new IceHall();
        x.most(25);
        x.step(40, 0);
        Due.is("sheet 0 has its cold", x.sheet(0, 0), 300);
        Due.is("sheet 1 lacks some", x.sheet(1, 0), 285);
        Due.is("melted", x.sheet(1, 4), 15);
        Due.is("STORE", x.count(1), 0);
        x.step(31, 1);
        Due.is("sheet 0", x.sheet(0, 0), 300);
        Due.is("sheet 1", x.sheet(1, 0), 275);
        Due.is("melted in all", x.sheet(1, 4), 25);
        Due.steps(x, 14, 40, 0);
        Due.is("nearly gone", x.sheet(0, 0), 20);
        Due.is("gone", x.sheet(1, 0), 0);
        Due.is("what would be less does not melt", x.sheet(1, 4), 300);
        Due.is("melted", x.sheet(0, 4), 280);
    }

    private static void sheetZeroFirst() {
        IceHall x = new IceHall();
        x.most(10);
        x.book(0, 1, 0, 0);
        x.book(1, 1, 1, 0);
        x.step(0, 0);
        Due.is("sheet 0", x.sheet(0, 4), 0);
        Due.is("sheet 1", x.sheet(1, 4), 8);
        IceHall y = new IceHall();
        y.most(30);
        y.cut(0, 0, 10);
        y.step(3, 0);
        Due.is("what the cut takes is gone for sheet 1", y.sheet(1, 4), 0);
        Due.is("flooded", y.sheet(0, 3), 9);
        y.cut(0, 0, 10);
        y.step(6, 1);
        Due.is("flooded", y.sheet(0, 3), 15);
        Due.is("sheet 1 lacks", y.sheet(1, 4), 3);
    }

    /** Lets the ice of sheet 0 become so thin, with no cold in store. */
    private static IceHall thin(int thickness) {
        IceHall x = new IceHall();
        x.most(1);
        x.step(0, 0);
        x.step(2, 0);
        while (x.sheet(0, 0) > thickness) {
            x.step(Math.min(40, 2 * (x.sheet(0, 0) - thickness)), 0);
        }
        return x;
    }

    private static void lostByThinIce() {
        // Skating wants 4, which melts ahead of the question whether it is HELD.
        IceHall x = thin(204);
        x.book(0, 0, 0, x.count(0));
        x.step(0, 0);
        Due.is("thickness", x.sheet(0, 0), 200);
        Due.is("200 is enough", x.look(0, 4), 1);
        IceHall y = thin(203);
        y.book(0, 0, 0, y.count(0));
        y.step(0, 0);
        Due.is("thickness", y.sheet(0, 0), 199);
        Due.is("LOST", y.look(0, 4), 2);
        Due.is("why", y.look(0, 5), 1);
        Due.is("owes", y.look(0, 7), 0);
        Due.is("no RUTS", y.sheet(0, 1), 0);
        Due.is("LOST of the club", y.club(0, 1), 1);
        Due.is("at", y.at(0, y.count(0) - 1), 0);
    }

    /** Floods sheet 1 till it is so thick. */
    private static IceHall thick(int thickness) {
        IceHall x = new IceHall();
        while (x.sheet(1, 0) < thickness) {
            x.cut(1, 0, Math.min(20, thickness - x.sheet(1, 0)));
            x.step(0, 3);
        }
        return x;
    }

    private static void lostByThickIce() {
        IceHall x = thick(450);
        x.book(0, 0, 1, x.count(0));
        x.step(0, 0);
        Due.is("450 is not too thick", x.look(0, 4), 1);
        IceHall y = thick(451);
        y.book(0, 0, 1, y.count(0));
        y.step(0, 0);
        Due.is("LOST", y.look(0, 4), 2);
        Due.is("why", y.look(0, 5), 2);
        Due.is("no RUTS", y.sheet(1, 1), 0);
    }

    private static void lostByRuts() {
        IceHall x = new IceHall();
        x.rest(12);
        int[] kinds = {1, 1, 3, 0, 0};
        int[] states = {1, 1, 1, 2, 2};
        for (int i = 0; i < kinds.length; i++) {
            x.book(0, kinds[i], 0, i);
        }
        Due.steps(x, 5, 0, 0);
        for (int i = 0; i < kinds.length; i++) {
            Due.is("STATE of " + i, x.look(i, 4), states[i]);
        }
        Due.is("why", x.look(3, 5), 3);
        Due.is("RUTS", x.sheet(0, 1), 65);
        Due.is("HELD", x.club(0, 0), 3);
        Due.is("LOST", x.club(0, 1), 2);
        Due.is("owes", x.club(0, 3), 300);
    }

    private static void thinComesFirst() {
        IceHall x = new IceHall();
        x.rest(12);
        x.book(0, 1, 0, 0);
        x.book(0, 1, 0, 1);
        x.book(0, 1, 0, 2);
        Due.steps(x, 3, 0, 0);
        Due.is("RUTS", x.sheet(0, 1), 90);
        while (x.sheet(0, 0) >= 200) {
            x.step(40, 0);
        }
        x.book(0, 0, 0, x.count(0));
        x.step(0, 3);
        Due.is("why", x.look(3, 5), 1);
        IceHall y = new IceHall();
        y.rest(12);
        for (int i = 0; i < 3; i++) {
            y.book(0, 1, 0, i);
            y.step(0, 3);
        }
        while (y.sheet(0, 0) <= 450) {
            y.cut(0, 0, 20);
            y.step(0, 3);
        }
        y.book(0, 0, 0, y.count(0));
        y.step(0, 3);
        Due.is("why", y.look(3, 5), 2);
    }

    private static void lostWantsHeatToo() {
        IceHall x = thin(100);
        x.most(400);
        x.step(0, 3);
        int cold = x.count(1);
        x.book(0, 1, 0, x.count(0));
        x.step(0, 0);
        Due.is("LOST", x.look(0, 4), 2);
        Due.is("STORE", x.count(1), cold - 9);
        x.book(0, 1, 0, x.count(0));
        x.cancel(1);
        x.step(0, 0);
        Due.is("a cancelled one wants none", x.count(1), cold - 9);
    }

    private static void closedSheetsWantColdToo() {
        IceHall x = new IceHall();
        x.close(0, 0, 5);
        x.close(1, 0, 5);
        x.step(20, 0);
        Due.is("STORE", x.count(1), 180);
        x.most(1);
        x.step(20, 0);
        Due.is("melted", x.sheet(0, 4), 9);
        Due.is("melted", x.sheet(1, 4), 10);
    }
}
