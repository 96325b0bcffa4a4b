import java.util.ArrayList;
import java.util.Arrays;
import java.util.List;

/**
 * A second hall, written from the document for its plainness alone: every question is asked of the
 * list of all sessions, a closing tries every row, a plan every row. The random runs compare with it.
 */
final class NaiveHall {
    static final int[] RUTS = {10, 30, 20, 5};
    static final int[] HEAT = {4, 9, 6, 2};
    static final int[] SHIFTS = {0, -1, 1, -2, 2, -3, 3};

    static final class Booking {
        int club;
        int kind;
        int sheet;
        int hour;
        int state;
        int why;
        int fee;
        int hundredths;
        int owes;
        int moved;
    }

    static final class Closing {
        int sheet;
        int from;
        int to;
    }

    int now = 0;
    int store = 200;
    int most = 400;
    int working = 3;
    int r = 2;
    int spilt = 0;
    int cost = 0;
    int waste = 0;
    final int[] price = new int[24];
    final int[] thickness = {300, 300};
    final int[] ruts = {0, 0};
    final int[] shaved = {0, 0};
    final int[] flooded = {0, 0};
    final int[] melted = {0, 0};
    final int[][] cut = new int[2][];
    final List<Booking> bookings = new ArrayList<>();
    final List<Closing> closings = new ArrayList<>();
    final NaiveRights[] rights = new NaiveRights[6];
    String tape = "";
    int[] plan = {};

    NaiveHall() {
        Arrays.fill(price, 10);
        for (int c = 0; c < 6; c++) {
            rights[c] = new NaiveRights();
        }
    }

    int feed(int... words) {
        if (tape.length() + 20 > 80) {
            return -1;
        }
        for (int word : words) {
            for (int k = 3; k >= 0; k--) {
                tape += (char) (word >> 8 * k & 255);
            }
        }
        return tape.length();
    }

    int rights(int club, int n) {
        if (club < 0 || club > 5 || n < 0 || n > tape.length()) {
            return -1;
        }
        String text = tape.substring(0, n);
        tape = "";
        int fault = NaiveRights.fault(text);
        if (fault == 0) {
            rights[club] = NaiveRights.of(text);
        }
        return fault;
    }

    boolean most(int n) {
        boolean is = n >= 1 && n <= 2000;
        most = is ? n : most;
        return is;
    }

    boolean compressors(int n) {
        boolean is = n >= 0 && n <= 3;
        working = is ? n : working;
        return is;
    }

    boolean price(int clock, int pence) {
        if (clock < 0 || clock > 23 || pence < 0 || pence > 99) {
            return false;
        }
        price[clock] = pence;
        return true;
    }

    boolean rest(int n) {
        boolean is = n >= 1 && n <= 12;
        r = is ? n : r;
        return is;
    }

    int book(int club, int kind, int sheet, int hour) {
        if (club < 0 || club > 5 || kind < 0 || kind > 3 || sheet < 0 || sheet > 1) {
            return -1;
        }
        if (hour < now || hour - now > 999 || bookings.size() == 200 || at(sheet, hour) != -1 || closed(sheet, hour)) {
            return -1;
        }
        NaiveRights by = rights[club];
        if (!by.clocks[hour % 24] || !by.days.contains("" + hour / 24 % 7) || !by.kinds.contains("" + kind)) {
            return -1;
        }
        long inWeek = bookings.stream()
                .filter(b -> b.club == club && b.state <= 2 && b.hour / 168 == hour / 168).count();
        if (inWeek >= by.n) {
            return -1;
        }
        Booking b = new Booking();
        b.club = club;
        b.kind = kind;
        b.sheet = sheet;
        b.hour = hour;
        b.fee = by.f;
        b.hundredths = by.c;
        bookings.add(b);
        if (!rested(sheet, hour)) {
            bookings.remove(bookings.size() - 1);
            return -1;
        }
        return bookings.size() - 1;
    }

    /** Whether the sessions that stand one behind the other with this hour are no more than R. */
    boolean rested(int sheet, int hour) {
        int from = hour;
        while (at(sheet, from - 1) != -1) {
            from--;
        }
        int to = hour;
        while (at(sheet, to + 1) != -1) {
            to++;
        }
        return to - from + 1 <= r;
    }

    boolean cancel(int n) {
        if (n < 0 || n >= bookings.size() || bookings.get(n).state != 0) {
            return false;
        }
        Booking b = bookings.get(n);
        b.state = 3;
        b.owes = b.fee * b.hundredths / 100;
        return true;
    }

    boolean cut(int sheet, int shave, int flood) {
        if (sheet < 0 || sheet > 1 || shave < 0 || shave > 20 || flood < 0 || flood > 20) {
            return false;
        }
        cut[sheet] = new int[] {shave, flood};
        return true;
    }

    boolean closed(int sheet, int hour) {
        return closings.stream().anyMatch(c -> c.sheet == sheet && hour >= c.from && hour < c.to);
    }

    int close(int sheet, int from, int to) {
        if (sheet < 0 || sheet > 1 || from < now || to > now + 1000L || to <= from || to - from > 100) {
            return -1;
        }
        if (closings.stream().filter(c -> c.sheet == sheet).count() == 10) {
            return -1;
        }
        List<Booking> out = new ArrayList<>();
        for (Booking b : bookings) {
            if (b.state == 0 && b.sheet == sheet && b.hour >= from && b.hour < to) {
                out.add(b);
            }
        }
        if (out.size() > 5) {
            return -1;
        }
        Closing c = new Closing();
        c.sheet = sheet;
        c.from = from;
        c.to = to;
        closings.add(c);
        for (Booking b : out) {
            b.state = 4;
        }
        best = null;
        tryRows(out, new int[out.size()], 0);
        int left = 0;
        for (int i = 0; i < out.size(); i++) {
            if (best[i] == 14) {
                left++;
            } else {
                set(out.get(i), best[i]);
                out.get(i).moved++;
            }
        }
        return left;
    }

    private int[] best;
    private int bestLeft;
    private int bestHours;

    private static void set(Booking b, int way) {
        b.state = 0;
        b.sheet = way % 2;
        b.hour += SHIFTS[way / 2];
    }

    /** All rows in their order; REST is asked only when all stand. */
    private void tryRows(List<Booking> out, int[] row, int i) {
        if (i == out.size()) {
            weigh(out, row);
            return;
        }
        Booking b = out.get(i);
        int sheet = b.sheet;
        int hour = b.hour;
        for (int way = 0; way < 14; way++) {
            int to = hour + SHIFTS[way / 2];
            if (to >= now && at(way % 2, to) == -1 && !closed(way % 2, to)) {
                row[i] = way;
                set(b, way);
                tryRows(out, row, i + 1);
                b.state = 4;
                b.sheet = sheet;
                b.hour = hour;
            }
        }
        row[i] = 14;
        tryRows(out, row, i + 1);
    }

    private void weigh(List<Booking> out, int[] row) {
        int left = 0;
        int hours = 0;
        for (int way : row) {
            left += way == 14 ? 1 : 0;
            hours += way == 14 ? 0 : Math.abs(SHIFTS[way / 2]);
        }
        if (best != null && (left > bestLeft || left == bestLeft && hours >= bestHours)) {
            return;
        }
        for (Booking b : out) {
            if (b.state == 0 && !rested(b.sheet, b.hour)) {
                return;
            }
        }
        best = row.clone();
        bestLeft = left;
        bestHours = hours;
    }

    int step(int warmth, int on) {
        if (warmth < -20 || warmth > 40 || on < 0 || on > working || now == 990) {
            return -1;
        }
        store += 20 * on;
        cost += price[now % 24] * on;
        if (store > most) {
            spilt += store - most;
            store = most;
        }
        for (int s = 0; s < 2; s++) {
            int n = at(s, now);
            int want = want(warmth) + (n == -1 ? 0 : HEAT[bookings.get(n).kind]);
            while (want > 0 && store > 0) {
                want--;
                store--;
            }
            while (want > 0 && thickness[s] > 0) {
                want--;
                thickness[s]--;
                melted[s]++;
            }
            if (n != -1) {
                goOn(bookings.get(n));
            } else if (!closed(s, now) && cut[s] != null) {
                makeCut(s);
            }
        }
        return ++now;
    }

    private static int want(int warmth) {
        return Math.max(0, Math.floorDiv(warmth, 2));
    }

    private void goOn(Booking b) {
        int t = thickness[b.sheet];
        b.why = t < 200 ? 1 : t > 450 ? 2 : ruts[b.sheet] > 60 ? 3 : 0;
        b.state = b.why == 0 ? 1 : 2;
        if (b.why == 0) {
            b.owes = b.fee;
            ruts[b.sheet] += RUTS[b.kind];
        }
    }

    private void makeCut(int s) {
        for (int i = 0; i < cut[s][0] && thickness[s] > 0; i++) {
            thickness[s]--;
            shaved[s]++;
            ruts[s] = Math.max(0, ruts[s] - 10);
        }
        for (int i = 0; i < cut[s][1]; i++) {
            if (store >= 3) {
                store -= 3;
                thickness[s]++;
                flooded[s]++;
            } else {
                waste++;
            }
        }
        cut[s] = null;
    }

    int plan(int n, int warmth) {
        if (n < 1 || n > 8 || warmth < -20 || warmth > 40) {
            return -1;
        }
        int[] bestRow = null;
        int bestCost = 0;
        int bestOn = 0;
        for (int code = 0; code < 1 << 2 * n; code++) {
            int[] row = new int[n];
            int cold = store;
            int pence = 0;
            int on = 0;
            boolean can = true;
            for (int i = 0; i < n && can; i++) {
                row[i] = code >> 2 * (n - 1 - i) & 3;
                cold += 20 * row[i];
                pence += price[(now + i) % 24] * row[i];
                on += row[i];
                can = row[i] <= working && cold <= most;
                for (int s = 0; s < 2; s++) {
                    int b = at(s, now + i);
                    cold -= want(warmth) + (b == -1 ? 0 : HEAT[bookings.get(b).kind]);
                }
                can &= cold >= 0;
            }
            if (can && (bestRow == null || pence < bestCost || pence == bestCost && on < bestOn)) {
                bestRow = row;
                bestCost = pence;
                bestOn = on;
            }
        }
        if (bestRow == null) {
            return -1;
        }
        plan = bestRow;
        return bestCost;
    }

    int planned(int i) {
        return i < 0 || i >= plan.length ? -1 : plan[i];
    }

    int part(int club, int pence) {
        if (club < 0 || club > 5 || pence < 0 || pence > 100000) {
            return -1;
        }
        long all = bookings.stream().filter(b -> b.state == 1).count();
        if (all == 0) {
            return -1;
        }
        long[] parts = new long[6];
        long[] remainders = new long[6];
        long left = pence;
        for (int c = 0; c < 6; c++) {
            parts[c] = (long) pence * club(c, 0) / all;
            remainders[c] = (long) pence * club(c, 0) % all;
            left -= parts[c];
        }
        for (; left > 0; left--) {
            int next = 0;
            for (int c = 1; c < 6; c++) {
                next = remainders[c] > remainders[next] ? c : next;
            }
            parts[next]++;
            remainders[next] = -1;
        }
        return (int) parts[club];
    }

    int look(int n, int what) {
        if (n < 0 || n >= bookings.size() || what < 0 || what > 8) {
            return -1;
        }
        Booking b = bookings.get(n);
        return new int[] {b.club, b.kind, b.sheet, b.hour, b.state, b.why, b.fee, b.owes, b.moved}[what];
    }

    int at(int sheet, int hour) {
        for (int n = 0; n < bookings.size(); n++) {
            Booking b = bookings.get(n);
            if (b.state <= 2 && b.sheet == sheet && b.hour == hour) {
                return n;
            }
        }
        return -1;
    }

    int sheet(int s, int what) {
        if (s < 0 || s > 1 || what < 0 || what > 5) {
            return -1;
        }
        return new int[] {thickness[s], ruts[s], shaved[s], flooded[s], melted[s], closed(s, now) ? 1 : 0}[what];
    }

    int club(int c, int what) {
        if (c < 0 || c > 5 || what < 0 || what > 3) {
            return -1;
        }
        if (what == 3) {
            return bookings.stream().filter(b -> b.club == c).mapToInt(b -> b.owes).sum();
        }
        int state = new int[] {1, 2, 0}[what];
        return (int) bookings.stream().filter(b -> b.club == c && b.state == state).count();
    }

    int count(int what) {
        if (what < 0 || what > 33) {
            return -1;
        }
        if (what >= 10) {
            return price[what - 10];
        }
        return new int[] {now, store, spilt, cost, waste, bookings.size(), most, working, r, tape.length()}[what];
    }
}
