/** Part 2 of the terms, bookings: the hours, the week, the rest, what is owed, how many ever. */
public final class Terms2BookingTest {
    public static void main(String[] args) {
        hoursFromNowOn();
        theHourThatIsNext();
        everyWeekIsItsOwn();
        aMovedSessionCountsWhereItStands();
        restOverWhatWentBy();
        restWithoutTheLeftOut();
        restOnEachSheet();
        rightsAsTheyWereForEver();
        owedByState();
        twoHundredEver();
        Due.end();
    }

    private static void hoursFromNowOn() {
        IceHall x = new IceHall();
        for (int now = 0; now <= 60; now++) {
            Due.is("NOW", x.count(0), now);
            Due.is("an hour that went by", x.book(0, 0, 0, now - 1), -1);
            Due.is("NOW and 1000", x.book(0, 0, 0, now + 1000), -1);
            if (now % 20 == 0) {
                Due.yes("NOW", x.book(0, 0, 0, now) != -1);
                Due.yes("NOW and 999", x.book(0, 0, 0, now + 999) != -1);
            }
            x.step(0, 0);
        }
        Due.is("ever BOOKED", x.count(5), 8);
    }

    private static void theHourThatIsNext() {
        IceHall x = new IceHall();
        x.step(0, 0);
        Due.is("book", x.book(0, 0, 0, 1), 0);
        x.step(0, 0);
        Due.is("it was HELD at once", x.look(0, 4), 1);
        Due.is("its hour is over", x.book(0, 0, 1, 1), -1);
        Due.no("it can't be cancelled", x.cancel(0));
    }

    private static void everyWeekIsItsOwn() {
        for (int week = 0; week < 5; week++) {
            int first = 168 * week;
            int[][] rows = {{first, first + 167}, {first + 167, first}, {first + 5, first + 167}, {first + 166, first}};
            for (int[] row : rows) {
                IceHall x = new IceHall();
                Due.tell(x, 0, "n1");
                Due.is("one in week " + week, x.book(0, 0, 0, row[0]), 0);
                Due.is("two in week " + week, x.book(0, 0, 1, row[1]), -1);
                Due.is("behind the week", x.book(0, 0, 1, first + 168), 1);
                Due.is("ahead of the week", x.book(0, 0, 1, first - 1), week == 0 ? -1 : 2);
            }
        }
    }

    private static void aMovedSessionCountsWhereItStands() {
        IceHall x = new IceHall();
        Due.tell(x, 0, "n1");
        Due.is("book", x.book(0, 0, 0, 168), 0);
        Due.is("close", x.close(1, 168, 169), 0);
        Due.is("close", x.close(0, 168, 169), 0);
        Due.is("HOUR", x.look(0, 3), 167);
        Due.is("the week that it came to", x.book(0, 0, 0, 100), -1);
        Due.is("the week that it left", x.book(0, 0, 0, 200), 1);
    }

    private static void restOverWhatWentBy() {
        for (int r = 1; r <= 12; r++) {
            IceHall x = new IceHall();
            x.rest(12);
            for (int i = 0; i < r; i++) {
                x.book(0, 3, 0, i);
            }
            Due.steps(x, r, 0, 3);
            x.rest(r);
            Due.is("behind " + r + " that went by", x.book(0, 3, 0, r), -1);
            Due.is("with an hour between", x.book(0, 3, 0, r + 1), r);
            Due.is("the hour between", x.book(0, 3, 0, r), -1);
            if (r < 12) {
                x.rest(r + 1);
                Due.is("behind " + r + " where one more may be", x.book(0, 3, 1, r), r + 1);
                Due.is("it would join " + r + " and one", x.book(0, 3, 0, r), -1);
                x.cancel(r);
                Due.is("without the one behind", x.book(0, 3, 0, r), r + 2);
            }
        }
    }

    private static void restWithoutTheLeftOut() {
        IceHall x = new IceHall();
        x.book(0, 0, 0, 50);
        x.book(0, 0, 0, 51);
        x.close(1, 40, 60);
        x.close(0, 52, 60);
        x.close(0, 40, 49);
        x.rest(1);
        Due.is("no room", x.close(0, 51, 52), 1);
        x.rest(2);
        Due.is("two stand", x.book(0, 0, 0, 49), 2);
    }

    private static void restOnEachSheet() {
        IceHall x = new IceHall();
        x.rest(1);
        Due.is("sheet 0", x.book(0, 0, 0, 10), 0);
        Due.is("sheet 1", x.book(0, 0, 1, 11), 1);
        Due.is("sheet 0", x.book(0, 0, 0, 12), 2);
        Due.is("sheet 1", x.book(0, 0, 1, 13), 3);
        Due.is("between on 0", x.book(0, 0, 0, 11), -1);
        Due.is("between on 1", x.book(0, 0, 1, 12), -1);
        Due.is("hour 0", x.book(0, 0, 0, 0), 4);
        Due.is("hour 1", x.book(0, 0, 0, 1), -1);
        Due.is("hour 999", x.book(0, 0, 0, 999), 5);
        Due.is("hour 998", x.book(0, 0, 0, 998), -1);
    }

    private static void rightsAsTheyWereForEver() {
        IceHall x = new IceHall();
        Due.tell(x, 0, "f40;c25;k0");
        x.book(0, 0, 0, 0);
        x.book(0, 0, 0, 9);
        x.book(0, 0, 0, 20);
        Due.tell(x, 0, "f8000;c100;n0;d6;w1-2;k3");
        Due.is("a closing moves it", x.close(0, 20, 21), 0);
        x.step(0, 0);
        Due.is("HELD", x.look(0, 7), 40);
        Due.yes("cancel", x.cancel(1));
        Due.is("cancelled", x.look(1, 7), 10);
        Due.yes("cancel", x.cancel(2));
        Due.is("moved and cancelled", x.look(2, 7), 10);
        Due.is("all", x.club(0, 3), 60);
    }

    private static void owedByState() {
        IceHall x = new IceHall();
        x.rest(12);
        Due.tell(x, 2, "f9999;c100");
        for (int hour = 0; hour < 4; hour++) {
            x.book(2, 1, 0, hour);
        }
        x.book(2, 0, 1, 50);
        x.book(2, 0, 1, 60);
        x.book(2, 0, 1, 900);
        x.close(0, 40, 56);
        Due.is("left out", x.close(1, 40, 56), 1);
        x.cancel(5);
        Due.steps(x, 4, 0, 0);
        int[] states = {1, 1, 1, 2, 4, 3, 0};
        int[] owes = {9999, 9999, 9999, 0, 0, 9999, 0};
        for (int b = 0; b < states.length; b++) {
            Due.is("STATE of " + b, x.look(b, 4), states[b]);
            Due.is("owes of " + b, x.look(b, 7), owes[b]);
        }
        Due.is("all", x.club(2, 3), 4 * 9999);
    }

    private static void twoHundredEver() {
        IceHall x = new IceHall();
        Due.is("one that will be HELD", x.book(0, 0, 0, 0), 0);
        x.step(0, 0);
        Due.is("one that will be LEFT OUT", x.book(0, 0, 0, 50), 1);
        x.close(1, 40, 60);
        Due.is("close", x.close(0, 40, 60), 1);
        Due.is("one that will be cancelled", x.book(0, 0, 0, 70), 2);
        x.cancel(2);
        for (int b = 3; b < 199; b++) {
            Due.is("book", x.book(b % 6, 0, b % 2, 100 + 4 * b), b);
        }
        Due.is("the last but one", x.count(5), 199);
        Due.is("one that can't be", x.book(0, 0, 0, 0), -1);
        Due.is("the last", x.book(0, 0, 0, 71), 199);
        int[] before = Due.state(x);
        Due.is("one more", x.book(0, 0, 0, 73), -1);
        Due.same("refused book", before, Due.state(x));
        Due.yes("the last can be cancelled", x.cancel(199));
        Due.is("and none comes for it", x.book(0, 0, 0, 71), -1);
    }
}
