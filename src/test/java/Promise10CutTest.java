/** Promise 10: a cut for a sheet's next hour without a session. */
public final class Promise10CutTest {
    public static void main(String[] args) {
        numbersThatAreAndAreNot();
        madeOnceInTheNextFreeHour();
        theLastToldCounts();
        notInAClosedHour();
        rutsAreTenLessForEach();
        coldForFloods();
        thinIceIsShavedAsFarAsItGoes();
        Due.end();
    }

    private static void numbersThatAreAndAreNot() {
        IceHall x = new IceHall();
        x.cut(0, 1, 2);
        int[] bad = {-1, 21, Integer.MIN_VALUE, Integer.MAX_VALUE};
        for (int b : bad) {
            Due.no("shave " + b, x.cut(0, b, 5));
            Due.no("flood " + b, x.cut(0, 5, b));
        }
        for (int s : new int[] {-1, 2, Integer.MIN_VALUE, Integer.MAX_VALUE}) {
            Due.no("sheet " + s, x.cut(s, 5, 5));
        }
        x.step(0, 0);
        Due.is("the one that was told is made", x.sheet(0, 2), 1);
        Due.is("the one that was told is made", x.sheet(0, 3), 2);
        Due.yes("20, 20", x.cut(0, 20, 20));
        Due.yes("0, 0", x.cut(1, 0, 0));
        x.step(0, 0);
        Due.is("shaved", x.sheet(0, 2), 21);
        Due.is("flooded", x.sheet(0, 3), 22);
        Due.is("the other is as it was", x.sheet(1, 0), 300);
    }

    private static void madeOnceInTheNextFreeHour() {
        IceHall x = new IceHall();
        x.book(0, 0, 0, 0);
        x.book(0, 0, 0, 1);
        Due.yes("cut", x.cut(0, 1, 3));
        Due.is("nothing at once", x.sheet(0, 0), 300);
        Due.steps(x, 2, 0, 0);
        Due.is("not with a session", x.sheet(0, 0), 300);
        Due.is("ruts", x.sheet(0, 1), 20);
        x.step(0, 0);
        Due.is("thickness", x.sheet(0, 0), 302);
        Due.is("ruts", x.sheet(0, 1), 10);
        Due.is("shaved", x.sheet(0, 2), 1);
        Due.is("flooded", x.sheet(0, 3), 3);
        Due.is("store", x.count(1), 200 - 8 - 9);
        Due.steps(x, 2, 0, 0);
        Due.is("once alone", x.sheet(0, 0), 302);
        Due.is("the other sheet", x.sheet(1, 0), 300);
    }

    private static void theLastToldCounts() {
        IceHall x = new IceHall();
        x.cut(1, 5, 0);
        x.cut(1, 0, 2);
        x.step(0, 0);
        Due.is("shaved", x.sheet(1, 2), 0);
        Due.is("flooded", x.sheet(1, 3), 2);
        x.cut(1, 5, 5);
        x.cut(1, 0, 0);
        x.step(0, 0);
        Due.is("shaved", x.sheet(1, 2), 0);
        Due.is("flooded", x.sheet(1, 3), 2);
        x.cut(1, 4, 0);
        x.step(41, 0);
        Due.is("a step that is refused makes none", x.sheet(1, 2), 0);
        x.step(0, 0);
        Due.is("shaved", x.sheet(1, 2), 4);
    }

    private static void notInAClosedHour() {
        IceHall x = new IceHall();
        x.cut(0, 4, 0);
        x.close(0, 0, 2);
        Due.steps(x, 2, 0, 0);
        Due.is("closed", x.sheet(0, 2), 0);
        x.step(0, 0);
        Due.is("open again", x.sheet(0, 2), 4);
    }

    private static void rutsAreTenLessForEach() {
        IceHall x = new IceHall();
        x.book(0, 1, 0, 0);
        x.book(0, 3, 0, 1);
        Due.steps(x, 2, 0, 0);
        Due.is("ruts", x.sheet(0, 1), 35);
        x.cut(0, 3, 0);
        x.step(0, 0);
        Due.is("ruts", x.sheet(0, 1), 5);
        x.cut(0, 1, 0);
        x.step(0, 0);
        Due.is("0 at least", x.sheet(0, 1), 0);
        Due.is("thickness", x.sheet(0, 0), 296);
    }

    private static void coldForFloods() {
        IceHall x = new IceHall();
        x.most(65);
        x.cut(0, 0, 20);
        x.cut(1, 0, 20);
        x.step(0, 0);
        Due.is("sheet 0 first", x.sheet(0, 3), 20);
        Due.is("what is left for sheet 1", x.sheet(1, 3), 1);
        Due.is("thickness", x.sheet(1, 0), 301);
        Due.is("store", x.count(1), 2);
        Due.is("waste", x.count(4), 19);
        x.cut(0, 0, 3);
        x.step(0, 0);
        Due.is("no cold", x.sheet(0, 3), 20);
        Due.is("waste", x.count(4), 22);
        Due.is("store", x.count(1), 2);
        x.step(0, 1);
        Due.is("the rest has run off", x.sheet(0, 3), 20);
    }

    private static void thinIceIsShavedAsFarAsItGoes() {
        IceHall x = new IceHall();
        x.most(1);
        x.book(0, 1, 0, 0);
        x.book(0, 1, 0, 1);
        x.step(0, 0);
        x.step(0, 0);
        Due.is("ruts", x.sheet(0, 1), 60);
        while (x.sheet(0, 0) > 20) {
            x.step(Math.min(40, 2 * (x.sheet(0, 0) - 3)), 0);
        }
        while (x.sheet(0, 0) > 3) {
            x.step(Math.min(2, 2 * (x.sheet(0, 0) - 3)), 0);
        }
        Due.is("thin", x.sheet(0, 0), 3);
        x.cut(0, 5, 0);
        x.step(0, 0);
        Due.is("thickness", x.sheet(0, 0), 0);
        Due.is("shaved is what went off", x.sheet(0, 2), 3);
        Due.is("ruts by what went off", x.sheet(0, 1), 30);
        int melted = x.sheet(0, 4);
        x.step(40, 0);
        Due.is("no ice melts no more", x.sheet(0, 4), melted);
        Due.is("thickness", x.sheet(0, 0), 0);
    }
}
