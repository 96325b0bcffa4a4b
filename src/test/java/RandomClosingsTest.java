import java.util.Random;

/** Promise 11 on random crowded halls, where many sessions must go and little is free. */
public final class RandomClosingsTest {
    private static final int HALLS = 20000;

    private static int fiveMoved = 0;
    private static int someLeftOut = 0;
    private static int refused = 0;

    public static void main(String[] args) {
        Random random = new Random(11);
        for (int i = 0; i < HALLS; i++) {
            crowdAndClose(random);
        }
        Due.yes("closings with five sessions", fiveMoved > HALLS / 20);
        Due.yes("closings that left some out", someLeftOut > HALLS / 10);
        Due.yes("closings with more than five", refused > HALLS / 100);
        Due.end();
    }

    private static void crowdAndClose(Random random) {
        IceHall x = new IceHall();
        NaiveHall y = new NaiveHall();
        int gone = random.nextInt(5);
        for (int i = 0; i < gone; i++) {
            x.step(0, 0);
            y.step(0, 0);
        }
        int r = 1 + random.nextInt(12);
        x.rest(r);
        y.rest(r);
        int wide = 5 + random.nextInt(8);
        int closedFirst = random.nextInt(wide);
        if (random.nextBoolean()) {
            Due.is("close 1", x.close(1, gone + closedFirst, gone + wide), y.close(1, gone + closedFirst, gone + wide));
        }
        int tries = 3 + random.nextInt(25);
        for (int i = 0; i < tries; i++) {
            int sheet = random.nextInt(3) == 0 ? 1 : 0;
            int hour = gone + random.nextInt(wide);
            Due.is("book", x.book(i % 6, 0, sheet, hour), y.book(i % 6, 0, sheet, hour));
        }
        int then = random.nextBoolean() ? r : 1 + random.nextInt(4);
        x.rest(then);
        y.rest(then);
        int from = gone + random.nextInt(3);
        int to = from + 1 + random.nextInt(wide + 2);
        int got = x.close(0, from, to);
        Due.is("close", got, y.close(0, from, to));
        count(y, got);
        for (int b = 0; b < y.bookings.size(); b++) {
            for (int what = 2; what <= 8; what++) {
                Due.is("look " + b + " " + what, x.look(b, what), y.look(b, what));
            }
            Due.is("at", x.at(y.look(b, 2), y.look(b, 3)), y.at(y.look(b, 2), y.look(b, 3)));
        }
        for (int hour = 0; hour < 40; hour++) {
            int s = random.nextInt(2);
            Due.is("book behind it", x.book(0, 0, s, hour), y.book(0, 0, s, hour));
        }
    }

    private static void count(NaiveHall y, int leftOut) {
        int touched = Math.max(0, leftOut);
        for (NaiveHall.Booking b : y.bookings) {
            touched += b.moved > 0 ? 1 : 0;
        }
        fiveMoved += touched == 5 ? 1 : 0;
        someLeftOut += leftOut > 0 ? 1 : 0;
        refused += leftOut == -1 ? 1 : 0;
    }
}
