import java.util.Arrays;

/**
 * A call that is refused changes nothing: of two halls that are alike one is asked what it must
 * refuse, and then both must answer alike to all that follows.
 */
public final class RefusedCallsTest {
    private static final int LOW = Integer.MIN_VALUE;
    private static final int HIGH = Integer.MAX_VALUE;
    private static final int NOW = 4;

    private interface Scene {
        IceHall make();
    }

    private interface Call {
        int on(IceHall x, int v);
    }

    public static void main(String[] args) {
        numbersOfThePlant();
        theTape();
        bookings();
        cancelled();
        cuts();
        closings();
        steps();
        plansAndParts();
        whatOnlyTells();
        whereAllIsFull();
        atTheLastHour();
        Due.end();
    }

    private static int one(boolean b) {
        return b ? 1 : 0;
    }

    /** The call with each of these numbers must be refused in the busy hall, and change nothing. */
    private static void refused(String name, int answer, Call call, int... numbers) {
        refusedIn(RefusedCallsTest::busy, name, answer, call, numbers);
    }

    private static void refusedIn(Scene scene, String name, int answer, Call call, int... numbers) {
        int[] want = follow(scene.make());
        for (int v : numbers) {
            IceHall x = scene.make();
            Due.is(name + " with " + v, call.on(x, v), answer);
            Due.same(name + " with " + v, want, follow(x));
        }
    }

    /** A hall in hour 4 with something of all: rights, sessions of each state, closings, cuts, a tape, a plan. */
    private static IceHall busy() {
        IceHall x = new IceHall();
        Due.tell(x, 1, "w8-20;d06;k13;n2;f250;c10");
        Due.tell(x, 2, "n0");
        x.rest(4);
        for (int hour = 0; hour < 4; hour++) {
            x.book(0, 1, 0, hour);
        }
        x.rest(2);
        x.book(1, 1, 0, 10);
        x.book(1, 3, 0, 12);
        x.book(3, 0, 1, 30);
        x.book(3, 0, 1, 40);
        x.close(0, 35, 45);
        x.close(1, 35, 45);
        x.cancel(6);
        for (int i = 0; i < 6; i++) {
            x.book(5, i % 4, 1, 60 + 2 * i);
        }
        x.most(300);
        x.compressors(2);
        x.price(4, 0);
        Due.steps(x, NOW, 10, 1);
        x.plan(3, 40);
        x.cut(0, 1, 2);
        x.cut(1, 3, 4);
        Due.feedText(x, "f777;c7;n9;k0123;d01");
        return x;
    }

    /** A hall with a full tape, 200 sessions, and ten closings of each sheet. */
    private static IceHall full() {
        IceHall x = new IceHall();
        for (int i = 0; i < 10; i++) {
            x.close(0, 10 * i, 10 * i + 2);
            x.close(1, 10 * i + 5, 10 * i + 7);
        }
        for (int b = 0; b < 200; b++) {
            x.book(b % 6, b % 4, b % 2, 100 + 4 * b);
        }
        Due.feedText(x, "f777;c7;n9;k0123;d01" + ";f778;f779;k0;k0123" + ";".repeat(41));
        return x;
    }

    private static IceHall last() {
        IceHall x = new IceHall();
        x.book(0, 0, 0, 989);
        Due.steps(x, 990, 0, 0);
        x.cut(0, 1, 1);
        x.book(0, 0, 0, 990);
        return x;
    }

    /** All answers of a long run of calls that reaches what can't be seen: the tape, cuts, rights, closings. */
    private static int[] follow(IceHall x) {
        int[] first = Due.state(x);
        int[] row = new int[200];
        int n = 0;
        row[n++] = x.rights(4, Math.min(20, x.count(9)));
        for (int c = 0; c < 6; c++) {
            for (int kind = 0; kind < 4; kind++) {
                row[n++] = x.book(c, kind, kind % 2, 500 + 20 * c + 3 * kind);
            }
        }
        row[n++] = x.plan(2, 30);
        for (int i = 0; i < 8; i++) {
            row[n++] = x.planned(i);
        }
        for (int i = 0; i < 5; i++) {
            row[n++] = x.step(12, i % 3);
            row[n++] = x.sheet(0, 0) * 1000 + x.sheet(1, 0);
            row[n++] = x.count(1) * 1000 + x.count(3);
        }
        for (int i = 0; i < 12; i++) {
            row[n++] = x.close(0, 1000 - i, 1001 - i);
            row[n++] = x.close(1, 1000 - i, 1001 - i);
        }
        row[n++] = x.part(0, 1000);
        int[] end = Due.state(x);
        int[] all = Arrays.copyOf(first, first.length + n + end.length);
        System.arraycopy(row, 0, all, first.length, n);
        System.arraycopy(end, 0, all, first.length + n, end.length);
        return all;
    }

    private static void numbersOfThePlant() {
        refused("most", 0, (x, v) -> one(x.most(v)), LOW, -1, 0, 2001, HIGH);
        refused("compressors", 0, (x, v) -> one(x.compressors(v)), LOW, -1, 4, HIGH);
        refused("price of a clock", 0, (x, v) -> one(x.price(v, 5)), LOW, -1, 24, HIGH);
        refused("price of pence", 0, (x, v) -> one(x.price(5, v)), LOW, -1, 100, HIGH);
        refused("rest", 0, (x, v) -> one(x.rest(v)), LOW, -1, 0, 13, HIGH);
    }

    private static void theTape() {
        refused("rights of a club", -1, (x, v) -> x.rights(v, 20), LOW, -1, 6, HIGH);
        refused("rights of bytes", -1, (x, v) -> x.rights(0, v), LOW, -1, 21, 80, 81, HIGH);
        refused("rights of neither", -1, (x, v) -> x.rights(v, v), LOW, -1, 21, HIGH);
    }

    private static void bookings() {
        refused("book of a club", -1, (x, v) -> x.book(v, 1, 0, 20), LOW, -1, 6, HIGH);
        refused("book of a kind", -1, (x, v) -> x.book(0, v, 0, 20), LOW, -1, 4, HIGH);
        refused("book on a sheet", -1, (x, v) -> x.book(0, 1, v, 20), LOW, -1, 2, HIGH);
        refused("book in an hour", -1, (x, v) -> x.book(0, 1, 0, v), LOW, -1, 0, NOW - 1, NOW + 1000, HIGH);
        refused("book where one stands", -1, (x, v) -> x.book(0, 1, 1, v), 60, 66, 70);
        refused("book where it is closed", -1, (x, v) -> x.book(0, 1, v, 35), 0, 1);
        refused("book where it is closed", -1, (x, v) -> x.book(0, 1, v, 44), 0, 1);
        refused("book against rest", -1, (x, v) -> x.book(0, 1, 0, v), 4, 11);
        refused("book against clocks", -1, (x, v) -> x.book(1, 1, 0, v), 168 + 7, 168 + 20);
        refused("book against days", -1, (x, v) -> x.book(1, 1, 0, v), 168 + 32, 168 + 5 * 24 + 8);
        refused("book against kinds", -1, (x, v) -> x.book(1, v, 0, 168 + 9), 0, 2);
        refused("book against n", -1, (x, v) -> x.book(1, 1, 0, v), 14, 6 * 24 + 8, 6 * 24 + 19);
        refused("book against n0", -1, (x, v) -> x.book(2, v, 0, 20), 0, 1, 2, 3);
    }

    private static void cancelled() {
        // 0 to 3 went by (HELD and LOST), 6 is cancelled, 7 is LEFT OUT, 14 and on were never booked.
        refused("cancel", 0, (x, v) -> one(x.cancel(v)), LOW, -1, 0, 1, 2, 3, 6, 7, 14, 15, 199, 200, HIGH);
        IceHall x = busy();
        int[] states = {1, 1, 1, 2, 0, 0, 3, 4, 0, 0, 0, 0, 0, 0, -1};
        for (int b = 0; b < states.length; b++) {
            Due.is("STATE of " + b, x.look(b, 4), states[b]);
        }
    }

    private static void cuts() {
        refused("cut of a sheet", 0, (x, v) -> one(x.cut(v, 9, 9)), LOW, -1, 2, HIGH);
        for (int s = 0; s < 2; s++) {
            int sheet = s;
            refused("cut by a shave", 0, (x, v) -> one(x.cut(sheet, v, 9)), LOW, -1, 21, HIGH);
            refused("cut by a flood", 0, (x, v) -> one(x.cut(sheet, 9, v)), LOW, -1, 21, HIGH);
        }
    }

    private static void closings() {
        refused("close a sheet", -1, (x, v) -> x.close(v, 200, 210), LOW, -1, 2, HIGH);
        refused("close from", -1, (x, v) -> x.close(0, v, 20), LOW, -1, 0, NOW - 1, 20, 21, HIGH);
        refused("close up to", -1, (x, v) -> x.close(1, 20, v), LOW, -1, 0, 19, 20, 121, NOW + 1001, HIGH);
        refused("close a hundred and one", -1, (x, v) -> x.close(0, v, v + 101), NOW, 100, NOW + 899);
        refused("close behind all", -1, (x, v) -> x.close(0, v - 5, v), NOW + 1001, NOW + 1005, NOW + 1006);
        refused("close with six", -1, (x, v) -> x.close(1, 60, v), 71, 72, 160);
        refused("close with six at its end", -1, (x, v) -> x.close(1, v, 71), NOW, 30, 60);
    }

    private static void steps() {
        refused("step with a warmth", -1, (x, v) -> x.step(v, 1), LOW, -21, 41, HIGH);
        refused("step with some on", -1, (x, v) -> x.step(10, v), LOW, -1, 3, 4, HIGH);
    }

    private static void plansAndParts() {
        refused("plan of hours", -1, (x, v) -> x.plan(v, 0), LOW, -1, 0, 9, HIGH);
        refused("plan with a warmth", -1, (x, v) -> x.plan(2, v), LOW, -21, 41, HIGH);
        refused("a plan that is not", -1, (x, v) -> {
            x.compressors(0);
            int cost = x.plan(8, v);
            x.compressors(2);
            return cost;
        }, 40, 38);
        refused("part of a club", -1, (x, v) -> x.part(v, 100), LOW, -1, 6, HIGH);
        refused("part of pence", -1, (x, v) -> x.part(0, v) + x.part(5, v) + 1, LOW, -1, 100001, HIGH);
        refusedIn(IceHall::new, "part of nothing", -1, (x, v) -> x.part(v, 100), 0, 5);
        refusedIn(IceHall::new, "planned of nothing", -1, IceHall::planned, 0, 7);
    }

    private static void whatOnlyTells() {
        refused("planned", -1, IceHall::planned, LOW, -1, 3, 7, 8, HIGH);
        refused("look at a session", -1, (x, v) -> x.look(v, 4), LOW, -1, 14, 199, 200, HIGH);
        refused("look at what", -1, (x, v) -> x.look(0, v), LOW, -1, 9, HIGH);
        refused("at a sheet", -1, (x, v) -> x.at(v, 60), LOW, -1, 2, HIGH);
        refused("at an hour", -1, (x, v) -> x.at(1, v), LOW, -1, 30, 40, 59, 61, 1999, 2048, 5000, HIGH);
        refused("sheet", -1, (x, v) -> x.sheet(v, 0), LOW, -1, 2, HIGH);
        refused("sheet and what", -1, (x, v) -> x.sheet(1, v), LOW, -1, 6, HIGH);
        refused("club", -1, (x, v) -> x.club(v, 0), LOW, -1, 6, HIGH);
        refused("club and what", -1, (x, v) -> x.club(5, v), LOW, -1, 4, HIGH);
        refused("count", -1, IceHall::count, LOW, -1, 34, HIGH);
    }

    private static void whereAllIsFull() {
        refusedIn(RefusedCallsTest::full, "feed", -1, (x, v) -> x.feed(v, v, v, v, v), 0, -1, 0x66313b66);
        refusedIn(RefusedCallsTest::full, "book", -1, (x, v) -> x.book(0, 0, 0, v), 3, 500 + 3, 950);
        refusedIn(RefusedCallsTest::full, "close", -1, (x, v) -> x.close(v, 950, 951), 0, 1);
        refusedIn(RefusedCallsTest::full, "rights", -1, (x, v) -> x.rights(0, v), 81, 100, -1);
        IceHall x = full();
        Due.is("bytes", x.count(9), 80);
        Due.is("ever BOOKED", x.count(5), 200);
        Due.is("the tape is still there", x.rights(0, 39), 0);
    }

    private static void atTheLastHour() {
        refusedIn(RefusedCallsTest::last, "step", -1, (x, v) -> x.step(v, 0), -20, 0, 40, 41);
        refusedIn(RefusedCallsTest::last, "book", -1, (x, v) -> x.book(0, 0, 1, v), 989, 1990);
        refusedIn(RefusedCallsTest::last, "close", -1, (x, v) -> x.close(1, v, 1991), 1990, 1985);
    }
}
