/** Promise 1: nothing is booked or closed in a new object, and all is as at first. */
public final class Promise01NewObjectTest {
    public static void main(String[] args) {
        countsAreAsAtFirst();
        nothingIsBookedOrClosed();
        rightsAreAsAtFirst();
        objectsShareNothing();
        Due.is("NONE", IceHall.NONE, -1);
        Due.end();
    }

    private static void countsAreAsAtFirst() {
        IceHall x = new IceHall();
        int[] want = {0, 200, 0, 0, 0, 0, 400, 3, 2, 0};
        for (int what = 0; what < want.length; what++) {
            Due.is("count " + what, x.count(what), want[what]);
        }
        for (int clock = 0; clock < 24; clock++) {
            Due.is("price of " + clock, x.count(10 + clock), 10);
        }
        int[] ice = {300, 0, 0, 0, 0, 0};
        for (int s = 0; s < 2; s++) {
            for (int what = 0; what < ice.length; what++) {
                Due.is("sheet " + s + " " + what, x.sheet(s, what), ice[what]);
            }
        }
    }

    private static void nothingIsBookedOrClosed() {
        IceHall x = new IceHall();
        for (int hour = 0; hour < 2100; hour++) {
            Due.is("at 0 " + hour, x.at(0, hour), -1);
            Due.is("at 1 " + hour, x.at(1, hour), -1);
        }
        for (int c = 0; c < 6; c++) {
            for (int what = 0; what < 4; what++) {
                Due.is("club " + c + " " + what, x.club(c, what), 0);
            }
        }
        Due.is("look", x.look(0, 0), -1);
        Due.is("planned", x.planned(0), -1);
        Due.is("part", x.part(0, 0), -1);
        Due.is("the last hour is free on 0", x.book(0, 0, 0, 999), 0);
        Due.is("the last hour is free on 1", x.book(0, 0, 1, 999), 1);
    }

    private static void rightsAreAsAtFirst() {
        IceHall x = new IceHall();
        x.rest(12);
        int booked = 0;
        // All 24 clocks, 7 days and 4 kinds, 168 of a week: every second hour of both sheets, one club.
        for (int hour = 0; hour < 168; hour += 2) {
            Due.is("book 0 " + hour, x.book(5, hour / 2 % 4, 0, hour), booked++);
            Due.is("book 1 " + hour, x.book(5, hour / 2 % 4, 1, hour + 1), booked++);
        }
        Due.is("168 stand", x.club(5, 2), 168);
        Due.is("the 169th of the week", x.book(5, 0, 0, 1), -1);
        Due.is("of another club", x.book(4, 0, 0, 1), 168);
        Due.is("in the next week", x.book(5, 0, 0, 168), 169);
        Due.is("fee", x.look(0, 6), 100);
        Due.yes("cancel", x.cancel(0));
        Due.is("hundredths", x.look(0, 7), 50);
        Due.is("a place is free again", x.book(5, 0, 0, 0), 170);
    }

    private static void objectsShareNothing() {
        IceHall x = new IceHall();
        int[] before = Due.state(new IceHall());
        Due.tell(x, 0, "n0");
        x.most(7);
        x.price(3, 4);
        x.rest(5);
        x.compressors(1);
        x.book(1, 1, 1, 0);
        x.cut(0, 3, 3);
        x.plan(1, 0);
        x.close(0, 5, 9);
        x.step(40, 1);
        x.feed(1, 2, 3, 4, 5);
        Due.same("another object's calls", before, Due.state(new IceHall()));
        Due.is("rights of another object", new IceHall().book(0, 0, 0, 6), 0);
    }
}
