/** Promise 11: a sheet is closed, and its sessions are moved with the fewest left out. */
public final class Promise11CloseTest {
    public static void main(String[] args) {
        numbersThatAreAndAreNot();
        hoursBesideNow();
        tenTimesAtMost();
        sixSessionsCannotBeMoved();
        theSameHourIsBest();
        aheadComesBeforeBehind();
        theLowerSheetComesFirst();
        notAheadOfNow();
        notOnClosedHours();
        restAsAllStandInTheEnd();
        restAfterAllAreTakenOut();
        fewestLeftOutThenFewestHours();
        leftOutOwesNothing();
        rightsAreNotAskedAgain();
        behindTheLastHour();
        Due.end();
    }

    private static void where(IceHall x, int b, int sheet, int hour, int moved) {
        Due.is("STATE of " + b, x.look(b, 4), 0);
        Due.is("SHEET of " + b, x.look(b, 2), sheet);
        Due.is("HOUR of " + b, x.look(b, 3), hour);
        Due.is("times moved of " + b, x.look(b, 8), moved);
        Due.is("at its place", x.at(sheet, hour), b);
    }

    private static void numbersThatAreAndAreNot() {
        IceHall x = new IceHall();
        x.book(0, 0, 0, 5);
        int[] before = Due.state(x);
        int low = Integer.MIN_VALUE;
        int high = Integer.MAX_VALUE;
        int[][] wrong = {{-1, 1, 2}, {2, 1, 2}, {low, 1, 2}, {high, 1, 2}, {0, 5, 5}, {0, 6, 5}, {0, -1, 5},
            {0, 4, 105}, {0, 901, 1001}, {0, low, high}, {0, low, 5}, {0, 5, high}, {0, high, low}, {0, 5, low},
            {0, high, high}, {0, 1000, 1000}, {0, 1000, 1001}};
        for (int[] call : wrong) {
            Due.is("close " + call[0] + " " + call[1] + " " + call[2], x.close(call[0], call[1], call[2]), -1);
        }
        Due.same("refused close", before, Due.state(x));
        Due.is("the last hours", x.close(0, 900, 1000), 0);
        Due.is("closed", x.book(0, 0, 0, 999), -1);
        Due.is("closed", x.book(0, 0, 0, 900), -1);
        Due.is("not closed", x.book(0, 0, 0, 899), 1);
        Due.is("not closed", x.book(0, 0, 1, 999), 2);
        Due.is("a hundred hours", x.close(0, 4, 104), 0);
        where(x, 0, 1, 5, 1);
    }

    private static void hoursBesideNow() {
        IceHall x = new IceHall();
        Due.steps(x, 7, 0, 0);
        Due.is("ahead of NOW", x.close(1, 6, 9), -1);
        Due.is("behind NOW and 1000", x.close(1, 1000, 1008), -1);
        Due.is("up to NOW and 1000", x.close(1, 1000, 1007), 0);
        Due.is("not closed", x.sheet(1, 5), 0);
        Due.is("from NOW on", x.close(1, 7, 9), 0);
        Due.is("closed", x.sheet(1, 5), 1);
        Due.is("the other is not", x.sheet(0, 5), 0);
        Due.steps(x, 1, 0, 0);
        Due.is("closed", x.sheet(1, 5), 1);
        Due.steps(x, 1, 0, 0);
        Due.is("open again", x.sheet(1, 5), 0);
        Due.steps(x, 990, 0, 0);
        Due.is("at the last", x.close(0, 1980, 1990), 0);
        Due.is("at the last", x.close(0, 1980, 1991), -1);
        Due.is("closed", x.book(0, 0, 0, 1989), -1);
    }

    private static void tenTimesAtMost() {
        IceHall x = new IceHall();
        for (int i = 0; i < 10; i++) {
            Due.is("refused, not counted", x.close(0, 5, 5), -1);
            Due.is("close " + i, x.close(0, 20, 21 + i), 0);
        }
        int[] before = Due.state(x);
        Due.is("the eleventh time", x.close(0, 500, 501), -1);
        Due.same("refused close", before, Due.state(x));
        Due.is("not closed", x.book(0, 0, 0, 500), 0);
        Due.is("the other sheet has its own ten", x.close(1, 500, 501), 0);
    }

    private static void sixSessionsCannotBeMoved() {
        IceHall x = new IceHall();
        for (int i = 0; i < 6; i++) {
            x.book(i, 0, 0, 100 + 4 * i);
        }
        x.book(0, 0, 1, 110);
        int[] before = Due.state(x);
        Due.is("six", x.close(0, 100, 121), -1);
        Due.same("refused close", before, Due.state(x));
        Due.is("not closed", x.book(0, 0, 0, 102), 7);
        x.cancel(7);
        Due.is("five", x.close(0, 100, 120), 0);
        for (int i = 0; i < 5; i++) {
            where(x, i, 1, 100 + 4 * i, 1);
        }
        where(x, 5, 0, 120, 0);
        IceHall y = new IceHall();
        for (int i = 0; i < 6; i++) {
            y.book(i, 0, 0, 100 + 4 * i);
        }
        y.cancel(2);
        Due.is("a cancelled one does not count", y.close(0, 100, 121), 0);
        Due.is("it stays cancelled", y.look(2, 4), 3);
        Due.is("it was not moved", y.look(2, 8), 0);
    }

    private static void theSameHourIsBest() {
        for (int s = 0; s < 2; s++) {
            IceHall x = new IceHall();
            x.book(0, 0, s, 50);
            Due.is("close", x.close(s, 50, 51), 0);
            where(x, 0, 1 - s, 50, 1);
            Due.is("its old place", x.at(s, 50), -1);
        }
    }

    private static void aheadComesBeforeBehind() {
        // The other sheet is taken at more and more hours, so the places come in their order.
        int[] shifts = {0, -1, 1, -2, 2, -3, 3};
        for (int n = 0; n <= shifts.length; n++) {
            IceHall x = new IceHall();
            x.rest(12);
            x.book(0, 0, 0, 50);
            for (int i = 0; i < n; i++) {
                x.book(1, 1, 1, 50 + shifts[i]);
            }
            Due.is("close " + n, x.close(0, 40, 60), n < shifts.length ? 0 : 1);
            if (n < shifts.length) {
                where(x, 0, 1, 50 + shifts[n], 1);
            } else {
                Due.is("STATE", x.look(0, 4), 4);
                Due.is("not moved", x.look(0, 8), 0);
                Due.is("HOUR", x.look(0, 3), 50);
                Due.is("at", x.at(0, 50), -1);
            }
        }
    }

    private static void theLowerSheetComesFirst() {
        for (int s = 0; s < 2; s++) {
            IceHall x = new IceHall();
            x.book(0, 0, s, 50);
            x.book(0, 0, 1 - s, 50);
            Due.is("close", x.close(s, 50, 51), 0);
            where(x, 0, 0, 49, 1);
        }
    }

    private static void notAheadOfNow() {
        IceHall x = new IceHall();
        x.book(0, 0, 0, 5);
        x.book(0, 0, 1, 5);
        Due.steps(x, 5, 0, 0);
        Due.is("close", x.close(0, 5, 6), 0);
        where(x, 0, 0, 6, 1);
        IceHall y = new IceHall();
        y.book(0, 0, 0, 6);
        y.book(0, 0, 1, 6);
        Due.steps(y, 5, 0, 0);
        Due.is("close", y.close(0, 6, 7), 0);
        where(y, 0, 0, 5, 1);
        IceHall z = new IceHall();
        z.book(0, 0, 0, 0);
        z.book(0, 0, 1, 0);
        Due.is("close", z.close(0, 0, 1), 0);
        where(z, 0, 0, 1, 1);
    }

    private static void notOnClosedHours() {
        IceHall x = new IceHall();
        x.book(0, 0, 0, 50);
        x.close(1, 49, 53);
        Due.is("close", x.close(0, 50, 52), 0);
        where(x, 0, 0, 49, 1);
        Due.is("close", x.close(0, 45, 50), 0);
        where(x, 0, 1, 48, 2);
        Due.is("close", x.close(1, 45, 60), 1);
        Due.is("LEFT OUT", x.look(0, 4), 4);
        Due.is("moved twice", x.look(0, 8), 2);
    }

    private static void restAsAllStandInTheEnd() {
        IceHall x = new IceHall();
        x.rest(3);
        x.book(0, 0, 0, 50);
        x.book(0, 0, 0, 51);
        x.book(0, 0, 0, 52);
        Due.yes("rest 2", x.rest(2));
        Due.is("close", x.close(0, 50, 53), 0);
        // 1 1 4 is the least row of one hour; 2 1 1 and 3 1 1, too, would do.
        where(x, 0, 1, 50, 1);
        where(x, 1, 1, 51, 1);
        where(x, 2, 0, 53, 1);
    }

    private static void restAfterAllAreTakenOut() {
        IceHall x = new IceHall();
        x.book(0, 0, 0, 50);
        x.book(0, 0, 0, 51);
        x.book(1, 0, 1, 51);
        x.book(1, 0, 1, 52);
        x.book(1, 0, 0, 53);
        x.book(1, 0, 0, 54);
        Due.is("close", x.close(0, 51, 53), 0);
        // 51 and 52 on sheet 1 are two already; 50 on sheet 0 is taken; 49 stands beside 50 alone.
        where(x, 1, 0, 49, 1);
        where(x, 0, 0, 50, 0);
    }

    private static void fewestLeftOutThenFewestHours() {
        IceHall x = new IceHall();
        x.rest(12);
        x.book(0, 0, 0, 50);
        x.book(0, 0, 0, 53);
        // On sheet 1 only 53 is free of all that 50 can reach, and 53 and 56 of what 53 can.
        for (int h = 47; h <= 55; h++) {
            if (h != 53) {
                x.book(h % 6, 0, 1, h);
            }
        }
        Due.is("close", x.close(0, 45, 60), 0);
        where(x, 0, 1, 53, 1);
        where(x, 1, 1, 56, 1);
        IceHall y = new IceHall();
        y.rest(12);
        y.book(0, 0, 0, 50);
        y.book(0, 0, 0, 53);
        for (int h = 47; h <= 56; h++) {
            if (h != 53) {
                y.book(h % 6, 0, 1, h);
            }
        }
        Due.is("close", y.close(0, 45, 60), 1);
        // With one left out, the one that needs no hour goes, though the other row is less.
        where(y, 1, 1, 53, 1);
        Due.is("LEFT OUT", y.look(0, 4), 4);
    }

    private static void leftOutOwesNothing() {
        IceHall x = new IceHall();
        x.book(2, 0, 0, 50);
        x.close(1, 40, 60);
        Due.is("close", x.close(0, 40, 60), 1);
        Due.is("owes", x.look(0, 7), 0);
        Due.is("FEE", x.look(0, 6), 100);
        Due.is("why", x.look(0, 5), 0);
        Due.is("the club owes", x.club(2, 3), 0);
        Due.is("BOOKED", x.club(2, 2), 0);
        Due.is("LOST", x.club(2, 1), 0);
        Due.is("ever BOOKED", x.count(5), 1);
    }

    private static void rightsAreNotAskedAgain() {
        IceHall x = new IceHall();
        Due.tell(x, 0, "w10-11;n1;d0");
        x.book(0, 0, 0, 10);
        x.book(1, 0, 1, 10);
        Due.tell(x, 0, "n0");
        Due.is("close", x.close(0, 10, 11), 0);
        where(x, 0, 0, 9, 1);
        x.step(0, 0);
        Due.is("FEE", x.look(0, 6), 100);
    }

    private static void behindTheLastHour() {
        IceHall x = new IceHall();
        x.book(0, 0, 0, 999);
        x.book(1, 0, 1, 999);
        x.close(1, 996, 999);
        Due.is("close", x.close(0, 990, 1000), 0);
        where(x, 0, 0, 1000, 1);
        Due.steps(x, 990, 0, 0);
        x.rest(12);
        int last = x.book(0, 0, 0, 1989);
        for (int hour = 1986; hour <= 1989; hour++) {
            x.book(1, 0, 1, hour);
        }
        x.close(1, 1980, 1986);
        Due.is("close", x.close(0, 1900, 1990), 0);
        where(x, last, 0, 1990, 1);
    }
}
