/** Promise 3: rights are read from the tape; faults, their places, and what rights let. */
public final class Promise03RightsTest {
    public static void main(String[] args) {
        faultsOfForm();
        faultsOfNumbers();
        firstFaultCounts();
        edgesThatAreRight();
        refusedKeepsTheTape();
        faultEmptiesTheTapeAndRightsStay();
        clocksLet();
        daysAndKindsLet();
        theLastClauseCounts();
        untoldIsAsAtFirst();
        sessionsKeepTheirRights();
        Due.end();
    }

    private static void fault(String text, int want) {
        Due.is("rights '" + text + "'", Due.tell(new IceHall(), 0, text), want);
    }

    private static void faultsOfForm() {
        fault("", 100);
        fault(";", 100);
        fault("x", 100);
        fault(" f1", 100);
        fault("W1-2", 100);
        fault("5", 100);
        fault("-", 100);
        fault("f", 101);
        fault("f;", 101);
        fault("fx", 101);
        fault("f-1", 101);
        fault("f 1", 101);
        fault("f1;", 103);
        fault("f1;;f2", 103);
        fault("f1 ;f2", 102);
        fault("f1f2", 102);
        fault("f1,f2", 102);
        fault("f12345", 105);
        fault("f00001", 105);
        fault("w", 101);
        fault("w1", 102);
        fault("w1;", 102);
        fault("w1-", 103);
        fault("w1-;", 103);
        fault("w1--2", 103);
        fault("w1-2-3", 104);
        fault("w-2", 101);
        fault("w00001-2", 105);
        fault("w1-00002", 107);
        fault("d", 101);
        fault("d;", 101);
        fault("d0x", 102);
        fault("d01234560", 108);
        fault("d01234569", 108);
        fault("d00000000", 108);
        fault("k", 101);
        fault("k01230", 105);
        fault("k01239", 105);
        fault("k0-1", 102);
        fault("n", 101);
        fault("c", 101);
        fault("f1\u00b3", 102);
        fault("f\u00b9", 101);
        fault("\u00e6", 100);
        fault("f1\0", 102);
        fault("f1/", 102);
        fault("f1:", 102);
        fault("f/", 101);
        fault("f:", 101);
    }

    private static void faultsOfNumbers() {
        fault("w24-24", 201);
        fault("w24", 201);
        fault("w24x", 201);
        fault("w9999-1", 201);
        fault("w5-5", 203);
        fault("w5-4", 203);
        fault("w5-0", 203);
        fault("w0-0", 203);
        fault("w5-25", 203);
        fault("w23-23", 204);
        fault("w0023-0023", 206);
        fault("d7", 201);
        fault("d9", 201);
        fault("d06127", 205);
        fault("d0123457", 207);
        fault("k4", 201);
        fault("k0124", 204);
        fault("n1000", 201);
        fault("n9999;", 201);
        fault("c101", 201);
        fault("c9999", 201);
        fault("f1;c101", 204);
        fault("f1;w1-2;d17", 210);
    }

    private static void firstFaultCounts() {
        fault("n1000x", 201);
        fault("n12345", 105);
        fault("c9999;x", 201);
        fault("c99999", 105);
        fault("x;n1000", 100);
        fault("d7x", 201);
        fault("dx7", 101);
        fault("w24-1", 201);
        fault("w24-x", 201);
        fault("w5-4x", 203);
        fault("w5x4", 102);
        fault("w99999-1", 105);
        fault("k4;k5", 201);
    }

    private static void edgesThatAreRight() {
        String[] right = {"w0-1", "w23-24", "w0-24", "w0000-0024", "w8-20", "d0", "d6", "d0123456", "d0000000",
            "k0", "k3", "k0123", "k3333", "n0", "n999", "n0999", "f0", "f9999", "f0000", "c0", "c100", "c0100",
            "w1-2;w3-4;d1;d2;k0;k1;n1;n2;f1;f2;c1;c2"};
        for (String text : right) {
            fault(text, 0);
        }
    }

    private static void refusedKeepsTheTape() {
        IceHall x = new IceHall();
        Due.feedText(x, "f7");
        int[] before = Due.state(x);
        int[][] wrong = {{-1, 2}, {6, 2}, {0, 21}, {0, -1}, {Integer.MIN_VALUE, 0}, {Integer.MAX_VALUE, 0},
            {0, Integer.MAX_VALUE}, {0, Integer.MIN_VALUE}};
        for (int[] call : wrong) {
            Due.is("rights " + call[0] + " " + call[1], x.rights(call[0], call[1]), -1);
            Due.same("refused rights", before, Due.state(x));
        }
        Due.is("the tape has stayed", x.rights(5, 2), 0);
        Due.is("it is empty then, whole", x.count(9), 0);
        x.book(5, 0, 0, 0);
        Due.is("fee", x.look(0, 6), 7);
    }

    private static void faultEmptiesTheTapeAndRightsStay() {
        IceHall x = new IceHall();
        Due.is("rights", Due.tell(x, 1, "f7;k1"), 0);
        Due.is("a fault", Due.tell(x, 1, "f8;k0;n1;c1;d1;w1-2;x"), 120);
        Due.is("the tape is empty", x.count(9), 0);
        Due.is("kind 0 is not let", x.book(1, 0, 0, 0), -1);
        Due.is("kind 1 is let", x.book(1, 1, 0, 0), 0);
        Due.is("its fee", x.look(0, 6), 7);
        Due.is("nothing on the tape", x.rights(1, 1), -1);
        Due.is("an empty text", x.rights(1, 0), 100);
        Due.is("still let", x.book(1, 1, 1, 0), 1);
    }

    private static void clocksLet() {
        IceHall x = new IceHall();
        x.rest(12);
        Due.is("rights", Due.tell(x, 0, "w8-10;w22-24;w0-1;w9-11"), 0);
        for (int hour = 0; hour < 24; hour++) {
            boolean let = hour >= 8 && hour < 11 || hour >= 22 || hour == 0;
            Due.is("clock " + hour, x.book(0, 0, 0, hour) != -1 ? 1 : 0, let ? 1 : 0);
            Due.is("clock " + hour + " on day 6", x.book(0, 0, 0, 6 * 24 + hour) != -1 ? 1 : 0, let ? 1 : 0);
        }
    }

    private static void daysAndKindsLet() {
        IceHall x = new IceHall();
        Due.is("rights", Due.tell(x, 0, "d0536;k31"), 0);
        for (int day = 0; day < 14; day++) {
            for (int kind = 0; kind < 4; kind++) {
                boolean let = "0536".indexOf('0' + day % 7) >= 0 && (kind == 1 || kind == 3);
                int got = x.book(0, kind, 0, day * 24 + kind * 3 + 5);
                Due.is("day " + day + " kind " + kind, got != -1 ? 1 : 0, let ? 1 : 0);
            }
        }
    }

    private static void theLastClauseCounts() {
        IceHall x = new IceHall();
        Due.is("rights", Due.tell(x, 0, "d1;d2;k0;k1;n9;n2;f1;f20;c1;c10"), 0);
        Due.is("day 1", x.book(0, 1, 0, 24), -1);
        Due.is("kind 0", x.book(0, 0, 0, 48), -1);
        Due.is("day 2, kind 1", x.book(0, 1, 0, 48), 0);
        Due.is("a second one", x.book(0, 1, 0, 50), 1);
        Due.is("a third one", x.book(0, 1, 0, 52), -1);
        Due.is("fee", x.look(0, 6), 20);
        Due.yes("cancel", x.cancel(0));
        Due.is("owes", x.look(0, 7), 2);
    }

    private static void untoldIsAsAtFirst() {
        IceHall x = new IceHall();
        Due.tell(x, 0, "w1-2;d1;k1;n0;f5;c100");
        Due.is("rights anew", Due.tell(x, 0, "f200"), 0);
        Due.is("book", x.book(0, 3, 0, 0), 0);
        Due.is("book", x.book(0, 0, 1, 23), 1);
        Due.yes("cancel", x.cancel(0));
        Due.is("c50", x.look(0, 7), 100);
        Due.is("rights anew", Due.tell(x, 0, "c0"), 0);
        Due.is("book", x.book(0, 3, 0, 0), 2);
        Due.is("f100", x.look(2, 6), 100);
        Due.yes("cancel", x.cancel(2));
        Due.is("c0", x.look(2, 7), 0);
    }

    private static void sessionsKeepTheirRights() {
        IceHall x = new IceHall();
        Due.tell(x, 0, "f333;c10");
        x.book(0, 0, 0, 0);
        x.book(0, 0, 1, 1);
        Due.tell(x, 0, "n0;f1;c100;d6");
        Due.is("fee", x.look(1, 6), 333);
        Due.yes("cancel", x.cancel(1));
        Due.is("owes rounded down", x.look(1, 7), 33);
        Due.is("step", x.step(0, 0), 1);
        Due.is("held", x.look(0, 4), 1);
        Due.is("owes", x.look(0, 7), 333);
        Due.is("the club owes", x.club(0, 3), 366);
    }
}
