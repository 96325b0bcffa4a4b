/** Promise 5: how many COMPRESSORS work, 0 to 3. */
public final class Promise05CompressorsTest {
    public static void main(String[] args) {
        IceHall x = new IceHall();
        for (int n : new int[] {0, 2, 1, 3}) {
            Due.yes("compressors " + n, x.compressors(n));
            Due.is("COMPRESSORS", x.count(7), n);
            Due.is("more than work", x.step(0, n + 1), -1);
        }
        int[] before = Due.state(x);
        for (int n : new int[] {-1, 4, Integer.MIN_VALUE, Integer.MAX_VALUE}) {
            Due.no("compressors " + n, x.compressors(n));
            Due.same("refused compressors", before, Due.state(x));
        }
        Due.yes("compressors", x.compressors(2));
        Due.is("as many as work", x.step(0, 2), 1);
        Due.is("STORE", x.count(1), 240);
        Due.is("COST", x.count(3), 20);
        Due.yes("compressors", x.compressors(1));
        Due.steps(x, 5, 40, 0);
        Due.is("STORE", x.count(1), 40);
        Due.is("no plan with one", x.plan(8, 40), -1);
        Due.yes("compressors", x.compressors(2));
        Due.is("a plan with two", x.plan(8, 40), 140);
        Due.end();
    }
}
