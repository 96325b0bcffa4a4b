/** Part 1 of the terms, each bound on its own: hours, cold, melting, what is held, what is cut. */
public final class Terms1IceTest {
    private static final int[] RUTS = {10, 30, 20, 5};
    private static final int[] HEAT = {4, 9, 6, 2};

    public static void main(String[] args) {
        clocksAndDaysGoRound();
        storeJustAtMost();
        storeUpToTwoThousand();
        storeOfOne();
        onlyAsManyAsWorkAreOn();
        coldJustEnough();
        coldJustEnoughForASession();
        iceJustGone();
        tooThin();
        tooThick();
        meltedAheadOfTheQuestion();
        tooManyRuts();
        shavedAsThickAsItIs();
        rutsDownToZero();
        coldJustForTheFlood();
        coldForTheFloodOfBothSheets();
        shavedAheadOfFlooded();
        theCutComesBehindTheWants();
        theCutWaitsForAnHourWithoutASession();
        theCutWaitsWhileClosed();
        Due.end();
    }

    /** A hall with so much in store (200 at most), an hour gone by. */
    static IceHall withStore(int cold) {
        IceHall x = new IceHall();
        x.most(cold);
        x.step(0, 0);
        x.most(400);
        Due.is("STORE", x.count(1), cold);
        return x;
    }

    /** A hall without cold, where a sheet is so thick (the other one is a tenth more or less). */
    static IceHall thin(int s, int thickness) {
        IceHall x = withStore(1);
        x.step(2, 0);
        while (x.sheet(s, 0) > thickness) {
            x.step(Math.min(40, 2 * (x.sheet(s, 0) - thickness)), 0);
        }
        Due.is("THICKNESS", x.sheet(s, 0), thickness);
        Due.is("STORE", x.count(1), 0);
        return x;
    }

    /** A hall where floods have made a sheet so thick. */
    static IceHall thick(int s, int thickness) {
        IceHall x = new IceHall();
        while (x.sheet(s, 0) < thickness) {
            x.cut(s, 0, Math.min(20, thickness - x.sheet(s, 0)));
            x.step(0, 3);
        }
        Due.is("THICKNESS", x.sheet(s, 0), thickness);
        return x;
    }

    /** Books a session for the next hour and lets it go by: its number. */
    private static int hold(IceHall x, int kind, int s, int on) {
        int b = x.book(0, kind, s, x.count(0));
        x.step(0, on);
        return b;
    }

    private static void clocksAndDaysGoRound() {
        for (int hour = 0; hour < 1000; hour++) {
            IceHall x = new IceHall();
            Due.tell(x, 0, "w23-24;d6");
            Due.tell(x, 1, "w0-1;d0");
            boolean last = hour % 24 == 23 && hour / 24 % 7 == 6;
            boolean first = hour % 24 == 0 && hour / 24 % 7 == 0;
            Due.is("the last clock of the last day " + hour, x.book(0, 0, 0, hour), last ? 0 : -1);
            Due.is("the first clock of the first day " + hour, x.book(1, 0, 0, hour), first ? 0 : -1);
        }
    }

    private static void storeJustAtMost() {
        int[][] rows = {{219, 1, 219, 1}, {220, 1, 220, 0}, {221, 1, 220, 0}, {200, 0, 200, 0}, {199, 0, 199, 1},
            {259, 3, 259, 1}, {260, 3, 260, 0}};
        for (int[] row : rows) {
            IceHall x = new IceHall();
            x.most(row[0]);
            x.step(0, row[1]);
            Due.is("STORE with MOST " + row[0], x.count(1), row[2]);
            Due.is("SPILT with MOST " + row[0], x.count(2), row[3]);
        }
    }

    private static void storeUpToTwoThousand() {
        IceHall x = new IceHall();
        x.most(2000);
        Due.steps(x, 30, 0, 3);
        Due.is("STORE", x.count(1), 2000);
        Due.is("SPILT", x.count(2), 0);
        x.step(0, 1);
        Due.is("STORE", x.count(1), 2000);
        Due.is("SPILT", x.count(2), 20);
        Due.is("what is SPILT is paid", x.count(3), 910);
    }

    private static void storeOfOne() {
        IceHall x = new IceHall();
        x.most(1);
        x.step(2, 3);
        Due.is("SPILT", x.count(2), 259);
        Due.is("STORE", x.count(1), 0);
        Due.is("sheet 0", x.sheet(0, 0), 300);
        Due.is("sheet 1", x.sheet(1, 0), 299);
    }

    private static void onlyAsManyAsWorkAreOn() {
        for (int working = 0; working <= 3; working++) {
            for (int on = -1; on <= 4; on++) {
                IceHall x = new IceHall();
                x.compressors(working);
                boolean can = on >= 0 && on <= working;
                Due.is("step with " + on + " of " + working, x.step(0, on), can ? 1 : -1);
                Due.is("STORE", x.count(1), can ? 200 + 20 * on : 200);
                Due.is("COST", x.count(3), can ? 10 * on : 0);
            }
        }
    }

    private static void coldJustEnough() {
        int[][] rows = {{41, 1, 0, 0}, {40, 0, 0, 0}, {39, 0, 0, 1}, {21, 0, 0, 19}, {20, 0, 0, 20}, {19, 0, 1, 20},
            {1, 0, 19, 20}};
        for (int[] row : rows) {
            IceHall x = withStore(row[0]);
            x.step(40, 0);
            Due.is("STORE of " + row[0], x.count(1), row[1]);
            Due.is("melted of sheet 0", x.sheet(0, 4), row[2]);
            Due.is("melted of sheet 1", x.sheet(1, 4), row[3]);
            Due.is("sheet 0", x.sheet(0, 0), 300 - row[2]);
            Due.is("sheet 1", x.sheet(1, 0), 300 - row[3]);
        }
    }

    private static void coldJustEnoughForASession() {
        for (int kind = 0; kind < 4; kind++) {
            for (int s = 0; s < 2; s++) {
                for (int lacks = 0; lacks <= 1; lacks++) {
                    IceHall x = withStore(HEAT[kind] + 10 - lacks);
                    x.book(0, kind, s, 1);
                    x.step(10, 0);
                    // Sheet 1 comes last, so what lacks is its own.
                    Due.is("STORE", x.count(1), 0);
                    Due.is("melted of sheet 0", x.sheet(0, 4), 0);
                    Due.is("melted of sheet 1", x.sheet(1, 4), lacks);
                }
            }
        }
    }

    private static void iceJustGone() {
        IceHall x = thin(0, 20);
        Due.is("sheet 1", x.sheet(1, 0), 19);
        x.step(40, 0);
        Due.is("as much as there is", x.sheet(0, 0), 0);
        Due.is("melted", x.sheet(0, 4), 300);
        Due.is("less than would melt", x.sheet(1, 0), 0);
        Due.is("melted", x.sheet(1, 4), 300);
        x.step(40, 0);
        Due.is("no ice", x.sheet(0, 0), 0);
        Due.is("melted", x.sheet(0, 4), 300);
        IceHall y = thin(0, 21);
        y.step(40, 0);
        Due.is("one is left", y.sheet(0, 0), 1);
        Due.is("melted", y.sheet(0, 4), 299);
    }

    private static void tooThin() {
        for (int s = 0; s < 2; s++) {
            for (int kind = 0; kind < 4; kind++) {
                IceHall x = thin(s, 200 + HEAT[kind]);
                int b = hold(x, kind, s, 0);
                Due.is("200: HELD", x.look(b, 4), 1);
                Due.is("RUTS", x.sheet(s, 1), RUTS[kind]);
                Due.is("owes", x.look(b, 7), 100);
                IceHall y = thin(s, 199 + HEAT[kind]);
                b = hold(y, kind, s, 0);
                Due.is("199: LOST", y.look(b, 4), 2);
                Due.is("by 1", y.look(b, 5), 1);
                Due.is("no RUTS", y.sheet(s, 1), 0);
                Due.is("owes", y.look(b, 7), 0);
            }
        }
    }

    private static void tooThick() {
        for (int s = 0; s < 2; s++) {
            for (int kind = 0; kind < 4; kind++) {
                IceHall x = thick(s, 450);
                int b = hold(x, kind, s, 3);
                Due.is("450: HELD", x.look(b, 4), 1);
                Due.is("RUTS", x.sheet(s, 1), RUTS[kind]);
                IceHall y = thick(s, 451);
                b = hold(y, kind, s, 3);
                Due.is("451: LOST", y.look(b, 4), 2);
                Due.is("by 2", y.look(b, 5), 2);
                Due.is("no RUTS", y.sheet(s, 1), 0);
            }
        }
    }

    private static void meltedAheadOfTheQuestion() {
        for (int lacks = 3; lacks <= 4; lacks++) {
            IceHall x = thick(0, 454);
            x.most(1);
            x.step(0, 0);
            // One more goes out of store where none shall be left.
            x.step(lacks == 4 ? 2 : 0, 0);
            Due.is("STORE", x.count(1), 4 - lacks);
            Due.is("THICKNESS", x.sheet(0, 0), 454);
            int b = hold(x, 0, 0, 0);
            Due.is("THICKNESS", x.sheet(0, 0), 454 - lacks);
            Due.is("STATE", x.look(b, 4), lacks == 4 ? 1 : 2);
            Due.is("why", x.look(b, 5), lacks == 4 ? 0 : 2);
        }
    }

    private static void tooManyRuts() {
        for (int s = 0; s < 2; s++) {
            IceHall x = new IceHall();
            x.rest(12);
            hold(x, 1, s, 3);
            hold(x, 1, s, 3);
            Due.is("RUTS", x.sheet(s, 1), 60);
            int b = hold(x, 3, s, 3);
            Due.is("60: HELD", x.look(b, 4), 1);
            Due.is("RUTS", x.sheet(s, 1), 65);
            b = hold(x, 3, s, 3);
            Due.is("65: LOST", x.look(b, 4), 2);
            Due.is("by 3", x.look(b, 5), 3);
            Due.is("RUTS", x.sheet(s, 1), 65);
            x.cut(s, 1, 0);
            x.step(0, 0);
            b = hold(x, 3, s, 3);
            Due.is("55: HELD", x.look(b, 4), 1);
        }
    }

    private static void shavedAsThickAsItIs() {
        for (int s = 0; s < 2; s++) {
            for (int thickness = 18; thickness <= 21; thickness++) {
                IceHall x = thin(s, thickness);
                x.cut(s, 20, 0);
                x.step(0, 0);
                Due.is("SHAVED of " + thickness, x.sheet(s, 2), Math.min(20, thickness));
                Due.is("THICKNESS", x.sheet(s, 0), thickness == 21 ? 1 : 0);
                Due.is("shaved is not melted", x.sheet(s, 4), 300 - thickness);
            }
        }
    }

    private static void rutsDownToZero() {
        int[][] rows = {{3, 0, 5}, {3, 1, 0}, {0, 1, 0}, {0, 2, 0}, {2, 1, 10}, {2, 2, 0}, {1, 2, 10}, {1, 3, 0},
            {1, 4, 0}, {1, 20, 0}};
        for (int[] row : rows) {
            IceHall x = new IceHall();
            hold(x, row[0], 1, 0);
            x.cut(1, row[1], 0);
            x.step(0, 0);
            Due.is("RUTS of kind " + row[0] + " shaved by " + row[1], x.sheet(1, 1), row[2]);
            Due.is("THICKNESS", x.sheet(1, 0), 300 - row[1]);
        }
    }

    private static void coldJustForTheFlood() {
        int[][] rows = {{61, 20, 20, 1}, {60, 20, 20, 0}, {59, 20, 19, 2}, {58, 20, 19, 1}, {57, 20, 19, 0},
            {3, 1, 1, 0}, {2, 1, 0, 2}, {1, 20, 0, 1}, {5, 1, 1, 2}, {5, 2, 1, 2}, {60, 0, 0, 60}};
        for (int[] row : rows) {
            for (int s = 0; s < 2; s++) {
                IceHall x = withStore(row[0]);
                x.cut(s, 0, row[1]);
                x.step(0, 0);
                Due.is("FLOODED " + row[1] + " with " + row[0], x.sheet(s, 3), row[2]);
                Due.is("THICKNESS", x.sheet(s, 0), 300 + row[2]);
                Due.is("STORE", x.count(1), row[3]);
                Due.is("WASTE", x.count(4), row[1] - row[2]);
            }
        }
    }

    private static void coldForTheFloodOfBothSheets() {
        IceHall x = withStore(65);
        x.cut(0, 0, 20);
        x.cut(1, 0, 5);
        x.step(0, 0);
        Due.is("sheet 0", x.sheet(0, 3), 20);
        Due.is("sheet 1", x.sheet(1, 3), 1);
        Due.is("WASTE", x.count(4), 4);
        Due.is("STORE", x.count(1), 2);
    }

    private static void shavedAheadOfFlooded() {
        IceHall x = thin(0, 5);
        x.most(400);
        x.cut(0, 10, 3);
        x.step(0, 1);
        Due.is("SHAVED", x.sheet(0, 2), 5);
        Due.is("FLOODED", x.sheet(0, 3), 3);
        Due.is("THICKNESS", x.sheet(0, 0), 3);
        Due.is("STORE", x.count(1), 11);
    }

    private static void theCutComesBehindTheWants() {
        IceHall x = withStore(10);
        x.cut(0, 0, 5);
        x.step(6, 0);
        Due.is("of 7 that are left", x.sheet(0, 3), 2);
        Due.is("WASTE", x.count(4), 3);
        Due.is("sheet 1 has the last one", x.sheet(1, 4), 2);
        Due.is("STORE", x.count(1), 0);
    }

    private static void theCutWaitsForAnHourWithoutASession() {
        IceHall x = thin(0, 150);
        x.most(400);
        int now = x.count(0);
        x.book(0, 3, 0, now);
        x.book(0, 3, 0, now + 1);
        x.cut(0, 2, 1);
        x.cut(1, 3, 0);
        x.step(0, 1);
        Due.is("LOST", x.look(0, 4), 2);
        Due.is("not with a LOST one", x.sheet(0, 2), 0);
        Due.is("the other sheet is cut", x.sheet(1, 2), 3);
        x.cancel(1);
        x.step(0, 1);
        Due.is("in the hour of a cancelled one", x.sheet(0, 2), 2);
        Due.is("FLOODED", x.sheet(0, 3), 1);
        x.step(0, 1);
        Due.is("once", x.sheet(0, 2), 2);
        Due.is("once", x.sheet(1, 2), 3);
    }

    private static void theCutWaitsWhileClosed() {
        IceHall x = new IceHall();
        x.close(1, 1, 3);
        x.step(0, 0);
        x.cut(1, 4, 2);
        x.step(0, 0);
        x.step(0, 0);
        Due.is("closed", x.sheet(1, 2) + x.sheet(1, 3), 0);
        Due.is("STORE", x.count(1), 200);
        x.step(0, 0);
        Due.is("SHAVED", x.sheet(1, 2), 4);
        Due.is("FLOODED", x.sheet(1, 3), 2);
    }
}
