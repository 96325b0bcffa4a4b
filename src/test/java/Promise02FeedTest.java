/** Promise 2: twenty bytes come behind the tape, the highest of each int first; at most 80. */
public final class Promise02FeedTest {
    public static void main(String[] args) {
        countsUpToEighty();
        bytesComeHighestFirstInOrder();
        bytesComeBehindTheTape();
        Due.end();
    }

    private static void countsUpToEighty() {
        IceHall x = new IceHall();
        for (int n = 20; n <= 80; n += 20) {
            Due.is("feed", x.feed(0, 0, 0, 0, 0), n);
            Due.is("bytes of the tape", x.count(9), n);
        }
        Due.is("one more", x.feed(1, 1, 1, 1, 1), -1);
        Due.is("the tape stays", x.count(9), 80);
        Due.is("eighty can be read", x.rights(0, 80), 100);
        Due.is("the tape is empty", x.count(9), 0);
        Due.is("room again", x.feed(0, 0, 0, 0, 0), 20);
    }

    private static void bytesComeHighestFirstInOrder() {
        IceHall x = new IceHall();
        // f123 4;c1 0;n7 ;k12 ;d05
        int a = 0x66313233;
        int b = 0x343b6331;
        int c = 0x303b6e37;
        int d = 0x3b6b3132;
        int e = 0x3b643035;
        Due.is("feed", x.feed(a, b, c, d, e), 20);
        Due.is("rights", x.rights(2, 20), 0);
        Due.is("kind 0", x.book(2, 0, 0, 0), -1);
        Due.is("day 1", x.book(2, 1, 0, 24), -1);
        Due.is("day 5", x.book(2, 1, 0, 5 * 24), 0);
        Due.is("fee", x.look(0, 6), 1234);
        Due.yes("cancel", x.cancel(0));
        Due.is("hundredths", x.look(0, 7), 123);
    }

    private static void bytesComeBehindTheTape() {
        IceHall x = new IceHall();
        StringBuilder text = new StringBuilder();
        for (int i = 0; i < 19; i++) {
            text.append("f1;n");
            text.append(i % 10).append(';');
        }
        String whole = text.substring(0, 78) + "f7";
        Due.is("feed a long text", Due.feedText(x, whole), 80);
        Due.is("rights of it", x.rights(1, 80), 0);
        Due.is("book", x.book(1, 0, 0, 0), 0);
        Due.is("the last fee counts", x.look(0, 6), 7);
        Due.is("a fault at the last place", Due.tell(x, 1, whole.substring(0, 79) + "x"), 179);
        Due.is("a fault behind the last place", Due.tell(x, 1, whole.substring(0, 76) + "222;"), 180);
    }
}
