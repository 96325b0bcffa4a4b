/** Promise 7: R, 1 to 12; sessions that stand stay. */
public final class Promise07RestTest {
    public static void main(String[] args) {
        numbersThatAreAndAreNot();
        everyRLetsSoMany();
        sessionsThatStandStay();
        sessionsThatWentByCount();
        Due.end();
    }

    private static void numbersThatAreAndAreNot() {
        IceHall x = new IceHall();
        for (int r : new int[] {1, 12, 7}) {
            Due.yes("rest " + r, x.rest(r));
            Due.is("R", x.count(8), r);
        }
        int[] before = Due.state(x);
        for (int r : new int[] {0, -1, 13, Integer.MIN_VALUE, Integer.MAX_VALUE}) {
            Due.no("rest " + r, x.rest(r));
            Due.same("refused rest", before, Due.state(x));
        }
    }

    private static void everyRLetsSoMany() {
        for (int r = 1; r <= 12; r++) {
            IceHall x = new IceHall();
            x.rest(r);
            for (int i = 0; i < r; i++) {
                Due.is("book " + i + " of " + r, x.book(i % 6, 0, 0, 100 + i), i);
            }
            Due.is("one behind", x.book(0, 0, 0, 100 + r), -1);
            Due.is("one ahead", x.book(0, 0, 0, 99), -1);
            Due.is("the other sheet", x.book(0, 0, 1, 99), r);
            Due.is("with an hour between", x.book(0, 0, 0, 101 + r), r + 1);
            Due.is("that would join two runs", x.book(0, 0, 0, 100 + r), -1);
        }
    }

    private static void sessionsThatStandStay() {
        IceHall x = new IceHall();
        x.rest(4);
        for (int i = 0; i < 4; i++) {
            x.book(0, 0, 0, 10 + i);
        }
        Due.yes("rest 1", x.rest(1));
        for (int i = 0; i < 4; i++) {
            Due.is("stays", x.at(0, 10 + i), i);
        }
        Due.is("no more behind them", x.book(0, 0, 0, 14), -1);
        Due.is("elsewhere on the sheet", x.book(0, 0, 0, 20), 4);
        Due.yes("cancel", x.cancel(1));
        Due.is("not there again", x.book(0, 0, 0, 11), -1);
        Due.yes("rest 4", x.rest(4));
        Due.is("there again", x.book(0, 0, 0, 11), 5);
    }

    private static void sessionsThatWentByCount() {
        IceHall x = new IceHall();
        x.book(0, 0, 0, 0);
        x.book(0, 0, 0, 1);
        Due.steps(x, 2, 0, 0);
        Due.is("HELD", x.look(1, 4), 1);
        Due.is("behind two that were HELD", x.book(0, 0, 0, 2), -1);
        Due.is("on the other sheet", x.book(0, 0, 1, 2), 2);
        IceHall y = new IceHall();
        y.most(1);
        Due.steps(y, 6, 40, 0);
        y.book(0, 0, 0, 6);
        y.book(0, 0, 0, 7);
        Due.steps(y, 2, 40, 0);
        Due.is("LOST", y.look(0, 4) + y.look(1, 4), 4);
        Due.is("behind two that were LOST", y.book(0, 0, 0, 8), -1);
    }
}
