import java.util.Random;

/** Random runs of up to 512 calls: every answer is compared with the one of the naive hall. */
public final class RandomRunsTest {
    private static final int RUNS = 700;

    private final Random random;
    private final IceHall x = new IceHall();
    private final NaiveHall y = new NaiveHall();
    /** What this run does most: each kind of run comes near other edges. */
    private final int flavour;
    private final int reach;

    private RandomRunsTest(int seed) {
        random = new Random(seed);
        flavour = seed % 6;
        reach = 1 + random.nextInt(flavour == 1 ? 12 : 60);
    }

    public static void main(String[] args) {
        for (int seed = 0; seed < RUNS; seed++) {
            new RandomRunsTest(seed).run();
        }
        Due.end();
    }

    private void run() {
        if (flavour == 4) {
            int skip = 900 + random.nextInt(90);
            for (int i = 0; i < skip; i++) {
                due("step", x.step(0, 0), y.step(0, 0));
            }
        }
        for (int call = 0; call < 512; call++) {
            change();
            tell();
            if (call % 64 == 63) {
                compareAll();
            }
        }
        compareAll();
    }

    private void due(String call, long got, long want) {
        Due.is("flavour " + flavour + " in hour " + y.now + ": " + call, got, want);
    }

    private static int one(boolean b) {
        return b ? 1 : 0;
    }

    /** Mostly a number from 0 up to a bound, that not counted; now and then one beside these. */
    private int near(int bound) {
        switch (random.nextInt(60)) {
            case 0: return -1;
            case 1: return bound;
            case 2: return random.nextBoolean() ? Integer.MIN_VALUE : Integer.MAX_VALUE;
            default: return random.nextInt(bound);
        }
    }

    private int hour() {
        switch (random.nextInt(40)) {
            case 0: return y.now - 1 - random.nextInt(3);
            case 1: return y.now + 990 + random.nextInt(14);
            case 2: return near(2000);
            default: return y.now + random.nextInt(reach);
        }
    }

    private void change() {
        int[] weights = {
            /* 0 mixed */ 6, 2, 2, 2, 2, 20, 4, 6, 2, 12, 4,
            /* 1 dense */ 1, 1, 1, 1, 3, 40, 6, 3, 5, 6, 1,
            /* 2 plant */ 1, 6, 6, 8, 1, 10, 2, 6, 1, 14, 20,
            /* 3 clubs */ 14, 1, 1, 1, 4, 30, 8, 4, 1, 8, 1,
            /* 4 late  */ 2, 2, 2, 2, 3, 30, 6, 4, 6, 4, 4,
            /* 5 ice   */ 1, 5, 2, 1, 3, 20, 2, 14, 1, 30, 1};
        int sum = 0;
        for (int i = 0; i < 11; i++) {
            sum += weights[flavour * 11 + i];
        }
        int pick = random.nextInt(sum);
        int which = 0;
        while (pick >= weights[flavour * 11 + which]) {
            pick -= weights[flavour * 11 + which];
            which++;
        }
        call(which);
    }

    private void call(int which) {
        int a = random.nextInt(4) == 0 ? near(6) : random.nextInt(6);
        switch (which) {
            case 0 -> newRights(a);
            case 1 -> {
                int n = random.nextBoolean() ? near(2003) : near(260);
                due("most " + n, one(x.most(n)), one(y.most(n)));
            }
            case 2 -> {
                int n = near(5);
                due("compressors " + n, one(x.compressors(n)), one(y.compressors(n)));
            }
            case 3 -> {
                int clock = random.nextBoolean() ? near(25) : (y.now + random.nextInt(8)) % 24;
                int pence = random.nextBoolean() ? near(101) : random.nextInt(4);
                due("price " + clock + " " + pence, one(x.price(clock, pence)), one(y.price(clock, pence)));
            }
            case 4 -> {
                int n = near(14);
                due("rest " + n, one(x.rest(n)), one(y.rest(n)));
            }
            case 5 -> {
                int kind = near(4);
                int sheet = near(2);
                int hour = hour();
                due("book " + a + " " + kind + " " + sheet + " " + hour, x.book(a, kind, sheet, hour),
                        y.book(a, kind, sheet, hour));
            }
            case 6 -> {
                int b = near(Math.max(1, y.bookings.size()));
                due("cancel " + b, one(x.cancel(b)), one(y.cancel(b)));
            }
            case 7 -> {
                int sheet = near(2);
                int shave = near(21);
                int flood = near(21);
                due("cut", one(x.cut(sheet, shave, flood)), one(y.cut(sheet, shave, flood)));
            }
            case 8 -> {
                int sheet = near(2);
                int from = hour();
                int to = from + (random.nextInt(20) == 0 ? near(104) : 1 + random.nextInt(8));
                due("close " + sheet + " " + from + " " + to, x.close(sheet, from, to), y.close(sheet, from, to));
            }
            case 9 -> {
                int warmth = near(flavour == 5 ? 66 : 30) - random.nextInt(22);
                int on = near(4);
                due("step " + warmth + " " + on, x.step(warmth, on), y.step(warmth, on));
            }
            default -> {
                int n = random.nextInt(8) == 0 ? near(10) : 1 + random.nextInt(6);
                int warmth = near(64) - random.nextInt(22);
                due("plan " + n + " " + warmth, x.plan(n, warmth), y.plan(n, warmth));
                for (int i = -1; i <= 8; i++) {
                    due("planned " + i, x.planned(i), y.planned(i));
                }
            }
        }
    }

    private void newRights(int club) {
        int feeds = random.nextInt(4);
        for (int i = 0; i < feeds; i++) {
            int[] w = {random.nextInt(), random.nextInt(), random.nextInt(), random.nextInt(), random.nextInt()};
            if (random.nextInt(4) == 0) {
                due("feed", x.feed(w[0], w[1], w[2], w[3], w[4]), y.feed(w));
            }
        }
        if (y.tape.isEmpty()) {
            String text = RightsTextsTest.clauses(random, random.nextInt(4) == 0);
            int before = text.length();
            StringBuilder padded = new StringBuilder(text);
            while (padded.length() % 20 != 0) {
                padded.append(';');
            }
            for (int i = 0; i < padded.length() && i < 80; i += 20) {
                int[] w = new int[5];
                for (int k = 0; k < 20; k++) {
                    w[k / 4] = w[k / 4] << 8 | padded.charAt(i + k);
                }
                due("feed", x.feed(w[0], w[1], w[2], w[3], w[4]), y.feed(w));
            }
            due("rights of '" + text + "'", x.rights(club, before), y.rights(club, before));
        } else {
            int n = near(82);
            due("rights " + n, x.rights(club, n), y.rights(club, n));
        }
    }

    private void tell() {
        int b = near(Math.max(1, y.bookings.size()));
        int what = near(10);
        due("look " + b + " " + what, x.look(b, what), y.look(b, what));
        int sheet = near(2);
        int hour = hour();
        due("at " + sheet + " " + hour, x.at(sheet, hour), y.at(sheet, hour));
        due("sheet " + sheet + " " + what, x.sheet(sheet, what), y.sheet(sheet, what));
        int club = near(6);
        due("club " + club + " " + what, x.club(club, what), y.club(club, what));
        int pence = near(random.nextBoolean() ? 100002 : 30);
        due("part " + club + " " + pence, x.part(club, pence), y.part(club, pence));
        int number = near(35);
        due("count " + number, x.count(number), y.count(number));
    }

    private void compareAll() {
        for (int what = -1; what <= 34; what++) {
            due("count " + what, x.count(what), y.count(what));
        }
        for (int s = 0; s < 2; s++) {
            for (int what = -1; what <= 6; what++) {
                due("sheet " + s + " " + what, x.sheet(s, what), y.sheet(s, what));
            }
            for (int hour = y.now - 30; hour < y.now + 80; hour++) {
                due("at " + s + " " + hour, x.at(s, hour), y.at(s, hour));
            }
        }
        for (int b = 0; b <= y.bookings.size(); b++) {
            for (int what = 0; what <= 9; what++) {
                due("look " + b + " " + what, x.look(b, what), y.look(b, what));
            }
        }
        for (int c = 0; c < 6; c++) {
            for (int what = 0; what <= 4; what++) {
                due("club " + c + " " + what, x.club(c, what), y.club(c, what));
            }
            due("part " + c, x.part(c, 100), y.part(c, 100));
        }
    }
}
