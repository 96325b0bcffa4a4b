/** Promise 15: fair parts by held sessions. */
public final class Promise15PartTest {
    public static void main(String[] args) {
        numbersThatAreAndAreNot();
        partsAddUp();
        ofLikeRemaindersTheLowest();
        onlyHeldCounts();
        Due.end();
    }

    /** A hall where each club has so many held sessions. */
    private static IceHall held(int... many) {
        IceHall x = new IceHall();
        x.most(2000);
        int slot = 0;
        for (int c = 0; c < many.length; c++) {
            for (int i = 0; i < many[c]; i++) {
                x.book(c, 3, slot % 2, slot / 2 * 2);
                slot++;
            }
        }
        while (x.count(0) <= slot) {
            x.cut(0, 1, 1);
            x.cut(1, 1, 1);
            x.step(0, 3);
        }
        for (int c = 0; c < many.length; c++) {
            Due.is("HELD of " + c, x.club(c, 0), many[c]);
        }
        return x;
    }

    private static void numbersThatAreAndAreNot() {
        IceHall x = new IceHall();
        Due.is("nothing was HELD", x.part(0, 10), -1);
        x = held(1);
        for (int c : new int[] {-1, 6, Integer.MIN_VALUE, Integer.MAX_VALUE}) {
            Due.is("club " + c, x.part(c, 10), -1);
        }
        for (int pence : new int[] {-1, 100001, Integer.MIN_VALUE, Integer.MAX_VALUE}) {
            Due.is("pence " + pence, x.part(0, pence), -1);
        }
        Due.is("0", x.part(0, 0), 0);
        Due.is("100000", x.part(0, 100000), 100000);
        Due.is("another club", x.part(5, 100000), 0);
    }

    private static void partsAddUp() {
        IceHall x = held(1, 2, 3, 0, 4, 7);
        int[] of100 = {6, 12, 18, 0, 23, 41};
        for (int c = 0; c < 6; c++) {
            Due.is("part of 100, club " + c, x.part(c, 100), of100[c]);
        }
        for (int pence = 0; pence < 200; pence++) {
            int sum = 0;
            for (int c = 0; c < 6; c++) {
                sum += x.part(c, pence);
            }
            Due.is("sum", sum, pence);
        }
        int[] ofMost = {5882, 11765, 17647, 0, 23529, 41177};
        for (int c = 0; c < 6; c++) {
            Due.is("part of 100000, club " + c, x.part(c, 100000), ofMost[c]);
        }
        IceHall y = held(60, 39);
        Due.is("many", y.part(0, 99999), 60605);
        Due.is("many", y.part(1, 99999), 39394);
    }

    private static void ofLikeRemaindersTheLowest() {
        IceHall x = held(1, 1, 0, 1, 1, 1);
        int[][] rows = {{1, 0, 0, 0, 0, 0}, {1, 1, 0, 0, 0, 0}, {1, 1, 0, 1, 0, 0}, {1, 1, 0, 1, 1, 0},
            {1, 1, 0, 1, 1, 1}, {2, 1, 0, 1, 1, 1}};
        for (int pence = 1; pence <= rows.length; pence++) {
            for (int c = 0; c < 6; c++) {
                Due.is("part of " + pence + ", club " + c, x.part(c, pence), rows[pence - 1][c]);
            }
        }
    }

    private static void onlyHeldCounts() {
        IceHall x = new IceHall();
        x.rest(12);
        for (int i = 0; i < 4; i++) {
            x.book(0, 1, 0, i);
        }
        x.book(1, 0, 1, 0);
        x.book(2, 0, 1, 50);
        x.book(3, 0, 1, 52);
        x.cancel(6);
        Due.steps(x, 4, 0, 0);
        Due.is("one is LOST", x.club(0, 1), 1);
        Due.is("part", x.part(0, 4000), 3000);
        Due.is("part", x.part(1, 4000), 1000);
        Due.is("part", x.part(2, 4000), 0);
        Due.is("part", x.part(3, 4000), 0);
    }
}
