/** Part 3 of the terms, closings: their bounds, where sessions may go, and which way is the best. */
public final class Terms3ClosingTest {
    private static final int[] SHIFTS = {0, -1, 1, -2, 2, -3, 3};

    public static void main(String[] args) {
        hoursOfAClosing();
        exactlyTheHoursAreClosed();
        tenTimes();
        closedTwice();
        closedWithoutSessions();
        upToFiveSessions();
        sessionsBesideTheHours();
        allFiveAreLeftOut();
        notAheadOfNow();
        notFartherThanThree();
        everyPlaceOfBothSheets();
        hoursBesideTheClosing();
        theFewestLeftOut();
        theFewestHoursInAll();
        theLeastRowByNumbers();
        restBesideWhatWentBy();
        restOfEachR();
        closedAgainAndAgain();
        Due.end();
    }

    private static void where(IceHall x, int b, int sheet, int hour, int moved) {
        Due.is("STATE of " + b, x.look(b, 4), 0);
        Due.is("SHEET of " + b, x.look(b, 2), sheet);
        Due.is("HOUR of " + b, x.look(b, 3), hour);
        Due.is("times moved of " + b, x.look(b, 8), moved);
        Due.is("at its place", x.at(sheet, hour), b);
    }

    private static void leftOut(IceHall x, int b) {
        Due.is("STATE of " + b, x.look(b, 4), 4);
        Due.is("owes of " + b, x.look(b, 7), 0);
        Due.is("not at its place", x.at(x.look(b, 2), x.look(b, 3)), -1);
    }

    private static void hoursOfAClosing() {
        for (int s = 0; s < 2; s++) {
            IceHall x = new IceHall();
            Due.steps(x, 50, 0, 0);
            int[][] rows = {{49, 60, -1}, {50, 50, -1}, {51, 50, -1}, {50, 49, -1}, {50, 151, -1}, {949, 1050, -1},
                {950, 1051, -1}, {1049, 1051, -1}, {1050, 1050, -1}, {1050, 1051, -1}, {0, 51, -1}, {-1, 51, -1},
                {50, 51, 0}, {50, 150, 0}, {950, 1050, 0}, {1049, 1050, 0}};
            for (int[] row : rows) {
                Due.is("close " + s + " " + row[0] + " " + row[1], x.close(s, row[0], row[1]), row[2]);
            }
        }
    }

    private static void exactlyTheHoursAreClosed() {
        for (int s = 0; s < 2; s++) {
            IceHall x = new IceHall();
            x.rest(12);
            Due.is("close", x.close(s, 3, 6), 0);
            for (int hour = 0; hour < 9; hour++) {
                boolean closed = hour >= 3 && hour < 6;
                Due.is("CLOSED in " + hour, x.sheet(s, 5), closed ? 1 : 0);
                Due.is("the other", x.sheet(1 - s, 5), 0);
                Due.is("book " + hour, x.book(0, 3, s, hour) != -1 ? 1 : 0, closed ? 0 : 1);
                Due.yes("book the other", x.book(0, 3, 1 - s, hour) != -1);
                x.step(0, 0);
            }
        }
    }

    private static void tenTimes() {
        for (int s = 0; s < 2; s++) {
            IceHall x = new IceHall();
            for (int i = 0; i < 10; i++) {
                Due.is("one that can't be", x.close(s, 0, 101), -1);
                Due.is("time " + i, x.close(s, 10 * i, 10 * i + 5), 0);
            }
            Due.is("one more", x.close(s, 200, 201), -1);
            Due.is("of hours that are closed", x.close(s, 0, 1), -1);
            Due.steps(x, 20, 0, 0);
            Due.is("of hours behind the first ones", x.close(s, 200, 201), -1);
            Due.is("it is open there", x.book(0, 0, s, 200), 0);
        }
    }

    private static void closedTwice() {
        IceHall x = new IceHall();
        Due.is("close", x.close(0, 10, 20), 0);
        Due.is("the same hours", x.close(0, 10, 20), 0);
        Due.is("some of them and more", x.close(0, 15, 25), 0);
        Due.is("closed", x.book(0, 0, 0, 10), -1);
        Due.is("closed", x.book(0, 0, 0, 24), -1);
        Due.is("open", x.book(0, 0, 0, 9), 0);
        Due.is("open", x.book(0, 0, 0, 25), 1);
    }

    private static void closedWithoutSessions() {
        IceHall x = new IceHall();
        x.book(0, 0, 1, 10);
        x.book(0, 0, 0, 9);
        x.book(0, 0, 0, 12);
        Due.is("close", x.close(0, 10, 12), 0);
        where(x, 0, 1, 10, 0);
        where(x, 1, 0, 9, 0);
        where(x, 2, 0, 12, 0);
    }

    private static void upToFiveSessions() {
        for (int many = 0; many <= 7; many++) {
            IceHall x = new IceHall();
            for (int i = 0; i < many; i++) {
                x.book(i % 6, 0, 1, 200 + 9 * i);
            }
            int[] before = Due.state(x);
            Due.is("close with " + many, x.close(1, 200, 300), many <= 5 ? 0 : -1);
            for (int i = 0; i < many; i++) {
                where(x, i, many <= 5 ? 0 : 1, 200 + 9 * i, many <= 5 ? 1 : 0);
            }
            if (many > 5) {
                Due.same("refused close", before, Due.state(x));
                Due.is("it is open", x.book(0, 0, 1, 299), many);
                Due.is("two of less", x.close(1, 200, 245), 0);
                Due.is("and the others", x.close(1, 245, 300), 0);
            }
        }
    }

    private static void sessionsBesideTheHours() {
        IceHall x = new IceHall();
        for (int i = 0; i < 7; i++) {
            x.book(0, 0, 0, 100 + 5 * i);
        }
        Due.is("five within", x.close(0, 101, 130), 0);
        where(x, 0, 0, 100, 0);
        where(x, 6, 0, 130, 0);
        for (int i = 1; i < 6; i++) {
            where(x, i, 1, 100 + 5 * i, 1);
        }
    }

    private static void allFiveAreLeftOut() {
        for (int many = 1; many <= 5; many++) {
            IceHall x = new IceHall();
            for (int i = 0; i < many; i++) {
                x.book(i, 0, 0, 50 + 2 * i);
            }
            Due.is("close", x.close(1, 40, 70), 0);
            Due.is("no place for any", x.close(0, 40, 70), many);
            for (int i = 0; i < many; i++) {
                leftOut(x, i);
                Due.is("not moved", x.look(i, 8), 0);
                Due.is("BOOKED of its club", x.club(i, 2), 0);
            }
        }
    }

    private static void notAheadOfNow() {
        // Closed but for one hour that is so far ahead: it may go there if that is not ahead of NOW.
        for (int far = 1; far <= 3; far++) {
            for (int now = 10 - far - 1; now <= 10 - far + 1; now++) {
                IceHall x = new IceHall();
                x.book(0, 0, 0, 10);
                x.close(1, 0, 30);
                x.close(0, 11, 30);
                Due.steps(x, now, 0, 0);
                int open = 10 - far;
                if (open + 1 < 10) {
                    x.close(0, Math.max(now, open + 1), 10);
                }
                if (now < open) {
                    x.close(0, now, open);
                }
                boolean can = open >= now;
                Due.is("close with NOW " + now + ", open " + open, x.close(0, 10, 11), can ? 0 : 1);
                if (can) {
                    where(x, 0, 0, open, 1);
                } else {
                    leftOut(x, 0);
                }
            }
        }
    }

    private static void notFartherThanThree() {
        for (int far = 3; far <= 4; far++) {
            for (int s = 0; s < 2; s++) {
                IceHall x = new IceHall();
                x.book(0, 0, s, 50);
                x.close(1 - s, 40, 60);
                Due.is("close ahead", x.close(s, 51 - far, 60), far <= 3 ? 0 : 1);
                IceHall y = new IceHall();
                y.book(0, 0, s, 50);
                y.close(1 - s, 40, 60);
                Due.is("close behind", y.close(s, 40, 50 + far), far <= 3 ? 0 : 1);
                if (far == 3) {
                    where(x, 0, s, 47, 1);
                    where(y, 0, s, 53, 1);
                }
            }
        }
    }

    /** All places are closed but one, then all but that and the next: the order is that of the row. */
    private static void everyPlaceOfBothSheets() {
        for (int own = 0; own < 2; own++) {
            for (int way = 0; way < 14; way++) {
                if (way == own) {
                    continue;
                }
                for (int next = way; next < 14; next++) {
                    IceHall x = new IceHall();
                    x.rest(12);
                    x.book(0, 0, own, 50);
                    for (int w = 0; w < 14; w++) {
                        if (w != way && w != next && w != own) {
                            x.book(1, 0, w % 2, 50 + SHIFTS[w / 2]);
                        }
                    }
                    Due.is("close", x.close(own, 50, 51), 0);
                    where(x, 0, way % 2, 50 + SHIFTS[way / 2], 1);
                }
            }
        }
    }

    private static void hoursBesideTheClosing() {
        for (int s = 0; s < 2; s++) {
            IceHall x = new IceHall();
            x.book(0, 0, s, 50);
            x.book(1, 0, s, 53);
            x.close(1 - s, 40, 60);
            Due.is("close", x.close(s, 50, 54), 0);
            where(x, 0, s, 49, 1);
            where(x, 1, s, 54, 1);
        }
    }

    private static void theFewestLeftOut() {
        IceHall x = new IceHall();
        x.rest(12);
        x.book(0, 0, 0, 53);
        x.book(0, 0, 0, 50);
        for (int h = 47; h <= 55; h++) {
            if (h != 53) {
                x.book(h % 6, 0, 1, h);
            }
        }
        // The first could stay in its hour, but that is the only one which the second can reach.
        Due.is("close", x.close(0, 45, 60), 0);
        where(x, 0, 1, 56, 1);
        where(x, 1, 1, 53, 1);
    }

    private static void theFewestHoursInAll() {
        IceHall x = new IceHall();
        x.rest(3);
        x.book(0, 0, 0, 50);
        x.book(0, 0, 0, 51);
        x.book(0, 0, 0, 52);
        x.rest(1);
        // 50, 52 and 54 would be three hours in all, though the first stays; 49, 51 and 53 are two.
        Due.is("close", x.close(0, 40, 60), 0);
        where(x, 0, 1, 49, 1);
        where(x, 1, 1, 51, 1);
        where(x, 2, 1, 53, 1);
    }

    private static void theLeastRowByNumbers() {
        for (int first = 50; first <= 51; first++) {
            IceHall x = new IceHall();
            x.book(0, 0, 0, first);
            x.book(0, 0, 0, 101 - first);
            x.rest(1);
            // One of them must go an hour: the one with the higher number, be it ahead or behind.
            Due.is("close", x.close(0, 40, 60), 0);
            where(x, 0, 1, first, 1);
            where(x, 1, 1, first == 50 ? 52 : 49, 1);
        }
    }

    private static void restBesideWhatWentBy() {
        IceHall x = new IceHall();
        x.book(0, 0, 1, 0);
        x.book(0, 0, 1, 1);
        x.book(0, 0, 0, 2);
        Due.steps(x, 2, 0, 0);
        Due.is("close", x.close(0, 2, 3), 0);
        where(x, 2, 0, 3, 1);
    }

    private static void restOfEachR() {
        for (int r = 1; r <= 12; r++) {
            for (int stand = r - 1; stand <= r; stand++) {
                IceHall x = new IceHall();
                x.rest(12);
                x.book(0, 0, 0, 50);
                for (int i = 1; i <= stand; i++) {
                    x.book(0, 0, 1, 50 + i);
                }
                x.rest(r);
                Due.is("close", x.close(0, 50, 70), 0);
                if (stand < r) {
                    where(x, 0, 1, 50, 1);
                } else {
                    where(x, 0, 0, 49, 1);
                }
            }
        }
    }

    private static void closedAgainAndAgain() {
        IceHall x = new IceHall();
        x.book(3, 2, 0, 50);
        for (int i = 0; i < 5; i++) {
            Due.is("close", x.close(0, 50 - i, 51 - i), 0);
            Due.is("times", x.look(0, 8), 2 * i + 1);
            where(x, 0, 1, 50 - i, 2 * i + 1);
            Due.is("close", x.close(1, 50 - i, 51 - i), 0);
            where(x, 0, 0, 49 - i, 2 * i + 2);
        }
        Due.is("its club", x.look(0, 0), 3);
        Due.is("its kind", x.look(0, 1), 2);
        Due.is("its fee", x.look(0, 6), 100);
    }
}
