/** Part 2 of the terms, the texts of rights: each bound, each letter, each place. */
public final class Terms2RightsTest {
    private static final String WHOLE = "w8-20;d06;k13;n5;f250;c10";

    public static void main(String[] args) {
        theEndAtEveryPlace();
        everyByteAtEveryPlace();
        everyPairOfClocks();
        windowsLetTheirClocks();
        everyDigitOfDaysAndKinds();
        soManyDigits();
        digitsToldTwice();
        bordersOfNumbers();
        fourDigitsAtMost();
        noClauseWithoutASign();
        windowsBesideOtherClauses();
        sessionsOfAWeek();
        Due.end();
    }

    private static void fault(String text, int want) {
        Due.is("rights '" + text + "'", Due.tell(new IceHall(), 0, text), want);
    }

    private static boolean let(IceHall x, int kind, int hour) {
        int b = x.book(0, kind, 0, hour);
        x.cancel(b);
        return b != -1;
    }

    private static void theEndAtEveryPlace() {
        int[] want = {100, 101, 102, 103, 203, 0, 106, 107, 0, 0, 110, 111, 0, 0, 114, 115, 0, 117, 118, 0, 0, 0,
            122, 123, 0, 0};
        Due.is("all places", want.length, WHOLE.length() + 1);
        for (int n = 0; n < want.length; n++) {
            fault(WHOLE.substring(0, n), want[n]);
            IceHall x = new IceHall();
            Due.feedText(x, WHOLE);
            Due.is("the first " + n + " of more", x.rights(0, n), want[n]);
            Due.is("the tape is empty then", x.count(9), 0);
        }
    }

    private static void everyByteAtEveryPlace() {
        for (int place = 0; place < WHOLE.length(); place++) {
            for (char letter = 0; letter < 256; letter++) {
                String text = WHOLE.substring(0, place) + letter + WHOLE.substring(place + 1);
                fault(text, NaiveRights.fault(text));
            }
        }
        for (char letter = 0; letter < 256; letter++) {
            fault("" + letter, "wdknfc".indexOf(letter) >= 0 ? 101 : 100);
            fault("f1" + letter, letter >= '0' && letter <= '9' ? 0 : letter == ';' ? 103 : 102);
            fault("c" + letter, letter >= '0' && letter <= '9' ? 0 : 101);
            fault("f1;" + letter, "wdknfc".indexOf(letter) >= 0 ? 104 : 103);
        }
    }

    private static void everyPairOfClocks() {
        for (int from = 0; from <= 30; from++) {
            for (int to = 0; to <= 30; to++) {
                int second = ("w" + from + "-").length();
                int want = from > 23 ? 201 : to > 24 || to <= from ? 200 + second : 0;
                fault("w" + from + "-" + to, want);
            }
        }
    }

    private static void windowsLetTheirClocks() {
        for (int from = 0; from < 24; from++) {
            for (int to = from + 1; to <= 24; to++) {
                IceHall x = new IceHall();
                Due.is("rights", Due.tell(x, 0, "w" + from + "-" + to), 0);
                for (int clock = 0; clock < 24; clock++) {
                    boolean in = clock >= from && clock < to;
                    Due.is("w" + from + "-" + to + " at " + clock, let(x, 0, clock) ? 1 : 0, in ? 1 : 0);
                }
            }
        }
    }

    private static void everyDigitOfDaysAndKinds() {
        for (int digit = 0; digit <= 9; digit++) {
            fault("d" + digit, digit <= 6 ? 0 : 201);
            fault("k" + digit, digit <= 3 ? 0 : 201);
            fault("d0" + digit, digit <= 6 ? 0 : 202);
            fault("k0" + digit, digit <= 3 ? 0 : 202);
            IceHall x = new IceHall();
            if (digit <= 6 && Due.tell(x, 0, "d" + digit) == 0) {
                for (int day = 0; day < 7; day++) {
                    Due.is("d" + digit + " on " + day, let(x, 0, day * 24 + 7) ? 1 : 0, day == digit ? 1 : 0);
                }
            }
            if (digit <= 3 && Due.tell(x, 0, "k" + digit) == 0) {
                for (int kind = 0; kind < 4; kind++) {
                    Due.is("k" + digit + " of " + kind, let(x, kind, 30) ? 1 : 0, kind == digit ? 1 : 0);
                }
            }
        }
    }

    private static void soManyDigits() {
        for (int many = 1; many <= 12; many++) {
            fault("d" + "6".repeat(many), many <= 7 ? 0 : 108);
            fault("k" + "3".repeat(many), many <= 4 ? 0 : 105);
            fault("d" + "6".repeat(many) + "7", many < 7 ? 201 + many : 108);
            fault("k" + "3".repeat(many) + "4", many < 4 ? 201 + many : 105);
        }
        fault("d;k1", 101);
        fault("k;d1", 101);
    }

    private static void digitsToldTwice() {
        IceHall x = new IceHall();
        Due.is("rights", Due.tell(x, 0, "d11;k3333"), 0);
        for (int day = 0; day < 7; day++) {
            for (int kind = 0; kind < 4; kind++) {
                boolean in = day == 1 && kind == 3;
                Due.is("day " + day + " kind " + kind, let(x, kind, day * 24) ? 1 : 0, in ? 1 : 0);
            }
        }
    }

    private static void bordersOfNumbers() {
        for (int number = 0; number <= 9999; number++) {
            fault("n" + number, number <= 999 ? 0 : 201);
            fault("f" + number, 0);
            fault("c" + number, number <= 100 ? 0 : 201);
        }
        for (String text : new String[] {"n", "f", "c"}) {
            fault("k0;" + text, 104);
            fault("k0;" + text + ";", 104);
        }
        fault("k0;n1000;x", 204);
        fault("k0;c0101", 204);
    }

    private static void fourDigitsAtMost() {
        String[] fronts = {"n", "f", "c", "w", "w0-", "f1;n", "f1;f", "f1;c", "f1;w", "f1;w0-"};
        for (String front : fronts) {
            int first = front.length();
            String behind = front.endsWith("w") ? "-2" : "";
            fault(front + "0001" + behind, 0);
            fault(front + "00001" + behind, 100 + first + 4);
            fault(front + "99999" + behind, 100 + first + 4);
            fault(front + "000001" + behind, 100 + first + 4);
            fault(front + "9999" + behind, front.endsWith("f") ? 0 : 200 + first);
        }
    }

    private static void noClauseWithoutASign() {
        fault("f1f", 102);
        fault("f1n1000", 102);
        fault("d1d", 102);
        fault("k1w24-1", 102);
        fault("w1-2w", 104);
        fault("f1;;", 103);
        fault(";f1", 100);
        fault("f1;f2;", 106);
    }

    private static void windowsBesideOtherClauses() {
        String[] others = {"d0", "k0", "n9", "f1", "c1"};
        for (String other : others) {
            for (String text : new String[] {"w8-10;" + other, other + ";w8-10", "w8-9;" + other + ";w9-10"}) {
                IceHall x = new IceHall();
                Due.is("rights", Due.tell(x, 0, text), 0);
                for (int clock = 0; clock < 24; clock++) {
                    boolean in = clock == 8 || clock == 9;
                    Due.is(text + " at " + clock, let(x, 0, clock) ? 1 : 0, in ? 1 : 0);
                }
            }
        }
    }

    private static void sessionsOfAWeek() {
        for (int n = 0; n <= 12; n++) {
            IceHall x = new IceHall();
            Due.tell(x, 0, "n" + n);
            for (int i = 0; i < 14; i++) {
                Due.is("session " + i + " with n" + n, x.book(0, 0, 0, 3 * i), i < n ? i : -1);
            }
        }
        IceHall x = new IceHall();
        Due.tell(x, 0, "n999");
        for (int b = 0; b < 200; b++) {
            Due.is("session " + b + " with n999", x.book(0, 0, b % 2, b / 4 * 3 + b / 2 % 2), b);
        }
        Due.is("all in one week", x.look(199, 3) / 168, 0);
    }
}
