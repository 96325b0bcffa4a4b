/** Promise 9: a session that is booked is cancelled and owes so many hundredths of its fee. */
public final class Promise09CancelTest {
    public static void main(String[] args) {
        owesHundredthsRoundedDown();
        onlyWhatIsBooked();
        onlyItsOwnHourIsFree();
        Due.end();
    }

    private static void owesHundredthsRoundedDown() {
        int[][] rows = {{9999, 100, 9999}, {9999, 99, 9899}, {9999, 1, 99}, {99, 1, 0}, {100, 1, 1}, {199, 50, 99},
            {0, 100, 0}, {77, 0, 0}, {3, 34, 1}};
        for (int[] row : rows) {
            IceHall x = new IceHall();
            Due.tell(x, 3, "f" + row[0] + ";c" + row[1]);
            x.book(3, 2, 1, 40);
            Due.is("owes nothing yet", x.look(0, 7), 0);
            Due.yes("cancel", x.cancel(0));
            Due.is("owes " + row[1] + " of " + row[0], x.look(0, 7), row[2]);
            Due.is("the club owes", x.club(3, 3), row[2]);
            Due.is("FEE stays", x.look(0, 6), row[0]);
            Due.is("STATE", x.look(0, 4), 3);
            Due.is("HOUR stays", x.look(0, 3), 40);
            Due.is("SHEET stays", x.look(0, 2), 1);
            Due.is("none is BOOKED", x.club(3, 2), 0);
            Due.is("ever BOOKED", x.count(5), 1);
            Due.is("at", x.at(1, 40), -1);
        }
    }

    private static void onlyItsOwnHourIsFree() {
        IceHall x = new IceHall();
        for (int b = 0; b < 100; b++) {
            x.book(b % 6, 0, b % 2, b * 10);
        }
        for (int b = 0; b < 100; b += 3) {
            Due.yes("cancel " + b, x.cancel(b));
        }
        for (int b = 0; b < 100; b++) {
            Due.is("at " + b * 10, x.at(b % 2, b * 10), b % 3 == 0 ? -1 : b);
            Due.is("anew at " + b * 10, x.book(0, 0, b % 2, b * 10), b % 3 == 0 ? 100 + b / 3 : -1);
        }
    }

    private static void onlyWhatIsBooked() {
        IceHall x = new IceHall();
        x.book(0, 0, 0, 0);
        x.book(0, 0, 1, 1);
        x.book(0, 0, 0, 50);
        x.book(0, 1, 0, 52);
        x.step(0, 0);
        Due.yes("in the hour that is to go by next", x.cancel(1));
        x.close(1, 40, 60);
        Due.is("left out", x.close(0, 40, 60), 2);
        int[] before = Due.state(x);
        Due.no("HELD", x.cancel(0));
        Due.no("cancelled", x.cancel(1));
        Due.no("LEFT OUT", x.cancel(2));
        for (int b : new int[] {4, -1, 200, Integer.MIN_VALUE, Integer.MAX_VALUE}) {
            Due.no("cancel " + b, x.cancel(b));
        }
        Due.same("refused cancel", before, Due.state(x));
        IceHall y = new IceHall();
        y.most(1);
        Due.steps(y, 7, 40, 0);
        y.book(0, 0, 0, 7);
        y.step(40, 0);
        Due.is("LOST", y.look(0, 4), 2);
        Due.no("LOST", y.cancel(0));
        Due.is("owes nothing", y.look(0, 7), 0);
        IceHall z = new IceHall();
        z.book(0, 0, 0, 5);
        z.close(0, 5, 6);
        Due.yes("one that was moved", z.cancel(0));
        Due.is("it is not there any more", z.at(1, 5), -1);
        Due.is("its hour is free", z.book(1, 0, 1, 5), 1);
    }
}
