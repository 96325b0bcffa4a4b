/** Promise 8: a session is booked, and all for which it can't be. */
public final class Promise08BookTest {
    public static void main(String[] args) {
        wrongNumbers();
        hoursFromNowOn();
        takenAndClosed();
        sessionsOfAWeek();
        restJoinsBothSides();
        twoHundredAtMost();
        Due.end();
    }

    private static void wrongNumbers() {
        IceHall x = new IceHall();
        x.book(0, 0, 0, 3);
        int[] before = Due.state(x);
        int[] bad = {-1, Integer.MIN_VALUE, Integer.MAX_VALUE};
        for (int b : bad) {
            Due.is("club " + b, x.book(b, 0, 0, 9), -1);
            Due.is("kind " + b, x.book(0, b, 0, 9), -1);
            Due.is("sheet " + b, x.book(0, 0, b, 9), -1);
            Due.is("hour " + b, x.book(0, 0, 0, b), -1);
        }
        Due.is("club 6", x.book(6, 0, 0, 9), -1);
        Due.is("kind 4", x.book(0, 4, 0, 9), -1);
        Due.is("sheet 2", x.book(0, 0, 2, 9), -1);
        Due.same("refused book", before, Due.state(x));
        Due.is("the last of each", x.book(5, 3, 1, 9), 1);
        Due.is("club", x.look(1, 0), 5);
        Due.is("kind", x.look(1, 1), 3);
        Due.is("sheet", x.look(1, 2), 1);
        Due.is("hour", x.look(1, 3), 9);
    }

    private static void hoursFromNowOn() {
        IceHall x = new IceHall();
        Due.is("hour 0", x.book(0, 0, 0, 0), 0);
        Due.is("hour 999", x.book(0, 0, 0, 999), 1);
        Due.is("hour 1000", x.book(0, 0, 1, 1000), -1);
        Due.steps(x, 3, 0, 0);
        Due.is("an hour that went by", x.book(0, 0, 1, 2), -1);
        Due.is("hour NOW", x.book(0, 0, 1, 3), 2);
        Due.is("hour NOW and 999", x.book(0, 0, 1, 1002), 3);
        Due.is("hour NOW and 1000", x.book(0, 0, 1, 1003), -1);
        Due.steps(x, 987, 0, 0);
        Due.is("NOW", x.count(0), 990);
        Due.is("hour 989", x.book(0, 0, 1, 989), -1);
        Due.is("hour 990", x.book(0, 0, 1, 990), 4);
        Due.is("hour 1989", x.book(0, 0, 1, 1989), 5);
        Due.is("hour 1990", x.book(0, 0, 1, 1990), -1);
        Due.is("at 1989", x.at(1, 1989), 5);
    }

    private static void takenAndClosed() {
        IceHall x = new IceHall();
        Due.is("book", x.book(0, 0, 0, 5), 0);
        Due.is("taken by itself", x.book(0, 0, 0, 5), -1);
        Due.is("taken by another club", x.book(1, 1, 0, 5), -1);
        Due.is("the other sheet", x.book(1, 1, 1, 5), 1);
        Due.is("close", x.close(0, 20, 22), 0);
        Due.is("closed", x.book(0, 0, 0, 20), -1);
        Due.is("closed", x.book(0, 0, 0, 21), -1);
        Due.is("ahead of it", x.book(0, 0, 0, 19), 2);
        Due.is("behind it", x.book(0, 0, 0, 22), 3);
        Due.is("on the other sheet", x.book(0, 0, 1, 20), 4);
        Due.yes("cancel", x.cancel(0));
        Due.is("free again, with a new number", x.book(2, 0, 0, 5), 5);
    }

    private static void sessionsOfAWeek() {
        IceHall x = new IceHall();
        Due.tell(x, 0, "n2");
        Due.is("one", x.book(0, 0, 0, 0), 0);
        Due.is("two", x.book(0, 0, 1, 167), 1);
        Due.is("three", x.book(0, 0, 0, 100), -1);
        Due.is("the next week", x.book(0, 0, 0, 168), 2);
        Due.is("another club", x.book(1, 0, 0, 100), 3);
        x.step(0, 0);
        Due.is("HELD", x.look(0, 4), 1);
        Due.is("HELD counts", x.book(0, 0, 0, 102), -1);
        Due.yes("cancel", x.cancel(1));
        Due.is("cancelled does not count", x.book(0, 0, 0, 102), 4);
        Due.is("now it is full", x.book(0, 0, 0, 104), -1);
        Due.tell(x, 0, "n3");
        Due.is("by the rights in force", x.book(0, 0, 0, 104), 5);
        Due.tell(x, 0, "n0");
        Due.is("none at all", x.book(0, 0, 0, 500), -1);
        IceHall y = new IceHall();
        Due.tell(y, 0, "n1");
        y.most(1);
        Due.steps(y, 6, 40, 0);
        Due.is("book", y.book(0, 0, 0, 6), 0);
        y.step(40, 0);
        Due.is("LOST", y.look(0, 4), 2);
        Due.is("LOST counts", y.book(0, 0, 0, 50), -1);
        IceHall z = new IceHall();
        Due.tell(z, 0, "n1");
        z.book(0, 0, 0, 0);
        z.close(1, 0, 10);
        Due.is("LEFT OUT", z.close(0, 0, 10), 1);
        Due.is("LEFT OUT does not count", z.book(0, 0, 0, 50), 1);
    }

    private static void restJoinsBothSides() {
        IceHall x = new IceHall();
        x.rest(3);
        x.book(0, 0, 0, 10);
        x.book(0, 0, 0, 12);
        x.book(0, 0, 0, 14);
        Due.is("three", x.book(0, 0, 0, 11), 3);
        Due.is("five", x.book(0, 0, 0, 13), -1);
        Due.is("refused changes nothing", x.count(5), 4);
        Due.yes("cancel", x.cancel(3));
        Due.is("three", x.book(0, 0, 0, 13), 4);
    }

    private static void twoHundredAtMost() {
        IceHall x = new IceHall();
        for (int b = 0; b < 200; b++) {
            Due.is("book " + b, x.book(b % 6, b % 4, b % 2, b * 3), b);
        }
        Due.is("ever BOOKED", x.count(5), 200);
        Due.is("the 201st", x.book(0, 0, 0, 1), -1);
        Due.yes("cancel", x.cancel(0));
        Due.is("those cancelled count too", x.book(0, 0, 0, 1), -1);
        Due.is("the last", x.look(199, 3), 597);
        Due.is("behind the last", x.look(200, 3), -1);
    }
}
