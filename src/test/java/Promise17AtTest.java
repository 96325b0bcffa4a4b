/** Promise 17: the session of a sheet in an hour. */
public final class Promise17AtTest {
    public static void main(String[] args) {
        IceHall x = new IceHall();
        x.book(0, 0, 0, 0);
        x.book(0, 0, 1, 0);
        x.book(0, 0, 1, 63);
        x.book(0, 0, 1, 64);
        x.book(0, 0, 0, 999);
        Due.is("at", x.at(0, 0), 0);
        Due.is("at", x.at(1, 0), 1);
        Due.is("at", x.at(1, 63), 2);
        Due.is("at", x.at(1, 64), 3);
        Due.is("at", x.at(0, 64), -1);
        Due.is("at", x.at(0, 999), 4);
        Due.is("at", x.at(1, 65), -1);
        int[][] wrong = {{-1, 0}, {2, 0}, {0, -1}, {0, 1000}, {0, 5000}, {Integer.MIN_VALUE, 0},
            {Integer.MAX_VALUE, 0}, {0, Integer.MIN_VALUE}, {0, Integer.MAX_VALUE}, {1, -64}, {0, 2048}};
        for (int[] call : wrong) {
            Due.is("at " + call[0] + " " + call[1], x.at(call[0], call[1]), -1);
        }
        x.cancel(2);
        Due.is("cancelled", x.at(1, 63), -1);
        x.book(3, 3, 1, 63);
        Due.is("booked anew", x.at(1, 63), 5);
        x.step(0, 0);
        Due.is("HELD", x.at(0, 0), 0);
        x.close(1, 63, 64);
        Due.is("moved away", x.at(1, 63), -1);
        Due.is("moved there", x.at(0, 63), 5);
        x.most(1);
        Due.steps(x, 9, 40, 0);
        x.book(1, 1, 1, 10);
        x.step(40, 0);
        Due.is("STATE", x.look(6, 4), 2);
        Due.is("LOST", x.at(1, 10), 6);
        x.close(0, 55, 75);
        Due.is("left out", x.close(1, 55, 75), 2);
        Due.is("left out", x.at(1, 64), -1);
        Due.end();
    }
}
