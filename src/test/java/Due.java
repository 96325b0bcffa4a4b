import java.nio.charset.StandardCharsets;
import java.util.Arrays;

/** What all tests share: asking for the answer that is due, telling texts, taking the whole state. */
final class Due {
    private static int wrong = 0;
    private static int asked = 0;

    private Due() {
    }

    static void is(String call, long got, long want) {
        asked++;
        if (got != want) {
            wrong++;
            System.out.println(call + " answered " + got + ", due is " + want);
        }
    }

    static void yes(String call, boolean got) {
        is(call, got ? 1 : 0, 1);
    }

    static void no(String call, boolean got) {
        is(call, got ? 1 : 0, 0);
    }

    /** Fails if the state is not the one that was taken before. */
    static void same(String what, int[] before, int[] after) {
        asked++;
        if (!Arrays.equals(before, after)) {
            wrong++;
            System.out.println(what + ": the state is not the same");
        }
    }

    /** Feeds a text, twenty bytes a call, the rest of the last call being zeros. */
    static int feedText(IceHall x, String text) {
        byte[] bytes = text.getBytes(StandardCharsets.ISO_8859_1);
        byte[] padded = Arrays.copyOf(bytes, (bytes.length + 19) / 20 * 20);
        int last = 0;
        for (int i = 0; i < padded.length; i += 20) {
            last = x.feed(word(padded, i), word(padded, i + 4), word(padded, i + 8),
                    word(padded, i + 12), word(padded, i + 16));
        }
        return last;
    }

    /** Feeds a text and makes it the rights of a club. */
    static int tell(IceHall x, int club, String text) {
        feedText(x, text);
        return x.rights(club, text.length());
    }

    static void steps(IceHall x, int many, int warmth, int on) {
        for (int i = 0; i < many; i++) {
            x.step(warmth, on);
        }
    }

    /** All that the calls which only tell can tell. */
    static int[] state(IceHall x) {
        int[] row = new int[8000];
        int n = 0;
        for (int what = -1; what <= 34; what++) {
            row[n++] = x.count(what);
        }
        for (int s = 0; s < 2; s++) {
            for (int what = 0; what <= 6; what++) {
                row[n++] = x.sheet(s, what);
            }
            for (int hour = 0; hour < 2000; hour++) {
                row[n++] = x.at(s, hour);
            }
        }
        for (int c = 0; c < 6; c++) {
            for (int what = 0; what <= 4; what++) {
                row[n++] = x.club(c, what);
            }
            row[n++] = x.part(c, 1000);
        }
        for (int b = 0; b < 201; b++) {
            for (int what = 0; what <= 9; what++) {
                row[n++] = x.look(b, what);
            }
        }
        for (int i = -1; i <= 8; i++) {
            row[n++] = x.planned(i);
        }
        return Arrays.copyOf(row, n);
    }

    static void end() {
        System.out.println(wrong + " of " + asked + " answers are not as due");
        if (wrong != 0 || asked == 0) {
            System.exit(1);
        }
    }

    private static int word(byte[] bytes, int i) {
        return (bytes[i] & 255) << 24 | (bytes[i + 1] & 255) << 16 | (bytes[i + 2] & 255) << 8 | bytes[i + 3] & 255;
    }
}
