/** Promise 14: the row of the latest plan that was not NONE. */
public final class Promise14PlannedTest {
    public static void main(String[] args) {
        IceHall x = new IceHall();
        for (int i = -1; i <= 8; i++) {
            Due.is("no plan yet", x.planned(i), -1);
        }
        Due.is("no plan", x.plan(9, 0), -1);
        Due.is("no plan yet", x.planned(0), -1);
        Due.is("plan", x.plan(8, 40), 60);
        int[] want = {0, 0, 0, 0, 0, 2, 2, 2};
        for (int i = 0; i < 8; i++) {
            Due.is("planned " + i, x.planned(i), want[i]);
        }
        for (int i : new int[] {-1, 8, Integer.MIN_VALUE, Integer.MAX_VALUE}) {
            Due.is("planned " + i, x.planned(i), -1);
        }
        x.step(40, 3);
        x.compressors(0);
        Due.is("there is none", x.plan(8, 40), -1);
        Due.is("the one before stays", x.planned(7), 2);
        Due.is("a shorter one", x.plan(2, 40), 0);
        Due.is("planned", x.planned(1), 0);
        Due.is("behind its hours", x.planned(2), -1);
        Due.is("behind its hours", x.planned(7), -1);
        x.step(0, 0);
        Due.is("it stays as the hours go by", x.planned(0), 0);
        Due.end();
    }
}
