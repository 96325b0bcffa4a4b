/**
 * An ice hall: two sheets of ice, a store of cold, clubs that book by rights told as texts,
 * closings that move sessions, and the cheapest plan of the plant.
 */
public final class IceHall {
    public static final int NONE = -1;

    private static final int SHEETS = 2;
    private static final int CLUBS = 6;
    private static final int KINDS = 4;
    private static final int CLOCKS = 24;
    private static final int DAYS = 7;
    private static final int WEEK_HOURS = 168;

    private static final int LAST_NOW = 990;
    private static final int BOOKED_AHEAD = 999;
    private static final int SESSIONS_MOST = 200;
    private static final int REST_MOST = 12;

    private static final int STORE_MOST = 2000;
    private static final int COMPRESSORS_MOST = 3;
    private static final int COLD_OF_COMPRESSOR = 20;
    private static final int PRICE_MOST = 99;
    private static final int COLD_OF_FLOOD = 3;
    private static final int WARMTH_LEAST = -20;
    private static final int WARMTH_MOST = 40;

    private static final int TENTHS_MOST = 20;
    private static final int RUTS_OF_SHAVE = 10;
    private static final int THICKNESS_LEAST = 200;
    private static final int THICKNESS_MOST = 450;
    private static final int RUTS_MOST = 60;

    private static final int CLOSED_AHEAD = 1000;
    private static final int CLOSED_HOURS_MOST = 100;
    private static final int CLOSINGS_MOST = 10;
    private static final int MOVED_MOST = 5;
    private static final int LEFT_OUT_WAY = 14;
    // Dearer than all HOURS that five sessions can be moved.
    private static final int LEFT_OUT_COST = 100;

    private static final int PLAN_MOST = 8;
    private static final int PENCE_MOST = 100000;

    private static final int TAPE_MOST = 80;
    private static final int FED_BYTES = 20;
    private static final int CANNOT_STAND = 1;
    private static final int CANNOT_BE = 2;

    private static final int BOOKED = 0;
    private static final int HELD = 1;
    private static final int LOST = 2;
    private static final int CANCELLED = 3;
    private static final int LEFT_OUT = 4;

    private static final int[] RUTS_OF_KIND = {10, 30, 20, 5};
    private static final int[] HEAT_OF_KIND = {4, 9, 6, 2};
    private static final int[] SHIFT_OF_PLACE = {0, -1, 1, -2, 2, -3, 3};

    private final Ice firstIce;
    private final Ice secondIce;
    private final Rights[] rightsInForce;
    private final Session[] sessions;
    private final int[] prices;
    private final Tape tape;
    private final RightsReader reader;
    private final Mover mover;
    private final Planner planner;
    private int everBooked;
    private int now;
    private int store;
    private int storeMost;
    private int working;
    private int restMost;
    private int spilt;
    private int cost;
    private int waste;

    public IceHall() {
        firstIce = new Ice();
        secondIce = new Ice();
        rightsInForce = new Rights[CLUBS];
        Rights atFirst = new Rights();
        for (int c = 0; c < CLUBS; c++) {
            rightsInForce[c] = atFirst;
        }
        sessions = new Session[SESSIONS_MOST];
        prices = new int[CLOCKS];
        for (int clock = 0; clock < CLOCKS; clock++) {
            prices[clock] = 10;
        }
        tape = new Tape();
        reader = new RightsReader(tape);
        mover = new Mover(firstIce, secondIce);
        planner = new Planner();
        store = 200;
        storeMost = 400;
        working = COMPRESSORS_MOST;
        restMost = 2;
    }

    public int feed(int a, int b, int c, int d, int e) {
        if (tape.size + FED_BYTES > TAPE_MOST) {
            return NONE;
        }
        tape.addWord(a);
        tape.addWord(b);
        tape.addWord(c);
        tape.addWord(d);
        tape.addWord(e);
        return tape.size;
    }

    public int rights(int club, int n) {
        if (!isBelow(club, CLUBS) || n < 0 || n > tape.size) {
            return NONE;
        }
        Rights told = new Rights();
        int fault = reader.readInto(told, n);
        tape.size = 0;
        if (fault == 0) {
            rightsInForce[club] = told;
        }
        return fault;
    }

    public boolean most(int n) {
        if (n < 1 || n > STORE_MOST) {
            return false;
        }
        storeMost = n;
        return true;
    }

    public boolean compressors(int n) {
        if (n < 0 || n > COMPRESSORS_MOST) {
            return false;
        }
        working = n;
        return true;
    }

    public boolean price(int clock, int pence) {
        if (!isBelow(clock, CLOCKS) || pence < 0 || pence > PRICE_MOST) {
            return false;
        }
        prices[clock] = pence;
        return true;
    }

    public boolean rest(int r) {
        if (r < 1 || r > REST_MOST) {
            return false;
        }
        restMost = r;
        return true;
    }

    public int book(int club, int kind, int sheet, int hour) {
        if (!isBelow(club, CLUBS) || !isBelow(kind, KINDS) || !isBelow(sheet, SHEETS)) {
            return NONE;
        }
        if (hour < now || hour > now + BOOKED_AHEAD || everBooked >= SESSIONS_MOST) {
            return NONE;
        }
        Rights inForce = rightsInForce[club];
        if (inForce == null || !inForce.let(kind, hour)) {
            return NONE;
        }
        if (countInWeek(club, hour / WEEK_HOURS) >= inForce.inWeek) {
            return NONE;
        }
        Ice ice = iceOf(sheet);
        if (!ice.hasRoom(hour, restMost)) {
            return NONE;
        }
        ice.taken.put(hour);
        sessions[everBooked] = new Session(club, kind, sheet, hour, inForce);
        everBooked++;
        return everBooked - 1;
    }

    public boolean cancel(int b) {
        Session session = sessionOf(b);
        if (session == null || session.state != BOOKED) {
            return false;
        }
        iceOf(session.onSheet).taken.drop(session.hour);
        session.state = CANCELLED;
        session.owes = session.fee * session.hundredths / 100;
        return true;
    }

    public boolean cut(int sheet, int shave, int flood) {
        if (!isBelow(sheet, SHEETS) || !isTenths(shave) || !isTenths(flood)) {
            return false;
        }
        iceOf(sheet).tellCut(shave, flood);
        return true;
    }

    public int close(int sheet, int from, int to) {
        if (!isBelow(sheet, SHEETS) || from < now || to <= from || to > now + CLOSED_AHEAD) {
            return NONE;
        }
        Ice ice = iceOf(sheet);
        if (to - from > CLOSED_HOURS_MOST || ice.closings >= CLOSINGS_MOST) {
            return NONE;
        }
        if (!gatherSessions(sheet, from, to)) {
            return NONE;
        }
        ice.closings++;
        for (int hour = from; hour < to; hour++) {
            ice.taken.drop(hour);
            ice.closed.put(hour);
        }
        mover.search(now, restMost);
        return mover.carryOut();
    }

    public int step(int warmth, int on) {
        if (!isWarmth(warmth) || on < 0 || on > working || now >= LAST_NOW) {
            return NONE;
        }
        runCompressors(on);
        int wanted = wantOfWarmth(warmth);
        passHour(0, wanted);
        passHour(1, wanted);
        now++;
        return now;
    }

    public int plan(int n, int warmth) {
        if (n < 1 || n > PLAN_MOST || !isWarmth(warmth)) {
            return NONE;
        }
        planner.begin();
        for (int i = 0; i < n; i++) {
            int hour = now + i;
            int heat = heatOf(standingAt(0, hour)) + heatOf(standingAt(1, hour));
            planner.addHour(heat + SHEETS * wantOfWarmth(warmth), prices[hour % CLOCKS]);
        }
        return planner.solve(store, storeMost, working);
    }

    public int planned(int i) {
        return isBelow(i, planner.rowSize) ? planner.row[i] : NONE;
    }

    public int part(int club, int pence) {
        if (!isBelow(club, CLUBS) || pence < 0 || pence > PENCE_MOST) {
            return NONE;
        }
        int all = 0;
        for (int c = 0; c < CLUBS; c++) {
            all += countInState(c, HELD);
        }
        return partOf(club, pence, all);
    }

    public int look(int b, int what) {
        Session session = sessionOf(b);
        if (session == null) {
            return NONE;
        }
        switch (what) {
            case 0: return session.byClub;
            case 1: return session.kind;
            case 2: return session.onSheet;
            case 3: return session.hour;
            case 4: return session.state;
            case 5: return session.whyLost;
            case 6: return session.fee;
            case 7: return session.owes;
            case 8: return session.timesMoved;
            default: return NONE;
        }
    }

    public int at(int sheet, int hour) {
        return isBelow(sheet, SHEETS) ? numberAt(sheet, hour) : NONE;
    }

    public int sheet(int s, int what) {
        if (!isBelow(s, SHEETS)) {
            return NONE;
        }
        Ice ice = iceOf(s);
        switch (what) {
            case 0: return ice.thickness;
            case 1: return ice.ruts;
            case 2: return ice.shaved;
            case 3: return ice.flooded;
            case 4: return ice.melted;
            case 5: return ice.closed.has(now) ? 1 : 0;
            default: return NONE;
        }
    }

    public int club(int c, int what) {
        if (!isBelow(c, CLUBS)) {
            return NONE;
        }
        switch (what) {
            case 0: return countInState(c, HELD);
            case 1: return countInState(c, LOST);
            case 2: return countInState(c, BOOKED);
            case 3: return owedBy(c);
            default: return NONE;
        }
    }

    public int count(int what) {
        switch (what) {
            case 0: return now;
            case 1: return store;
            case 2: return spilt;
            case 3: return cost;
            case 4: return waste;
            case 5: return everBooked;
            case 6: return storeMost;
            case 7: return working;
            case 8: return restMost;
            case 9: return tape.size;
            default: return what >= 10 && what < 10 + CLOCKS ? prices[what - 10] : NONE;
        }
    }

    private static boolean isBelow(int number, int bound) {
        return number >= 0 && number < bound;
    }

    private static boolean isTenths(int tenths) {
        return tenths >= 0 && tenths <= TENTHS_MOST;
    }

    private static boolean isWarmth(int warmth) {
        return warmth >= WARMTH_LEAST && warmth <= WARMTH_MOST;
    }

    private static int wantOfWarmth(int warmth) {
        return warmth > 0 ? warmth / 2 : 0;
    }

    private static int ofKind(int[] row, int kind) {
        return isBelow(kind, row.length) ? row[kind] : 0;
    }

    private Ice iceOf(int s) {
        return s == 0 ? firstIce : secondIce;
    }

    private Session sessionOf(int b) {
        return b >= 0 && b < everBooked && b < SESSIONS_MOST ? sessions[b] : null;
    }

    private int numberAt(int s, int hour) {
        if (!iceOf(s).taken.has(hour)) {
            return NONE;
        }
        for (int b = 0; b < everBooked; b++) {
            Session session = sessionOf(b);
            if (session != null && session.stands() && session.onSheet == s && session.hour == hour) {
                return b;
            }
        }
        return NONE;
    }

    private Session standingAt(int s, int hour) {
        return sessionOf(numberAt(s, hour));
    }

    private static int heatOf(Session session) {
        return session == null ? 0 : ofKind(HEAT_OF_KIND, session.kind);
    }

    private int countInWeek(int c, int week) {
        int found = 0;
        for (int b = 0; b < everBooked; b++) {
            Session session = sessionOf(b);
            if (session != null && session.byClub == c && session.stands()
                    && session.hour / WEEK_HOURS == week) {
                found++;
            }
        }
        return found;
    }

    private int countInState(int c, int state) {
        int found = 0;
        for (int b = 0; b < everBooked; b++) {
            Session session = sessionOf(b);
            if (session != null && session.byClub == c && session.state == state) {
                found++;
            }
        }
        return found;
    }

    private int owedBy(int c) {
        int owed = 0;
        for (int b = 0; b < everBooked; b++) {
            Session session = sessionOf(b);
            if (session != null && session.byClub == c) {
                owed += session.owes;
            }
        }
        return owed;
    }

    /** Hands the mover what stands on a sheet in these hours; false if that is too much. */
    private boolean gatherSessions(int s, int from, int to) {
        mover.begin();
        for (int b = 0; b < everBooked; b++) {
            Session session = sessionOf(b);
            if (session != null && session.stands() && session.onSheet == s
                    && session.hour >= from && session.hour < to && !mover.add(session)) {
                return false;
            }
        }
        return true;
    }

    private void runCompressors(int on) {
        cost += on * prices[now % CLOCKS];
        store += on * COLD_OF_COMPRESSOR;
        if (store > storeMost) {
            spilt += store - storeMost;
            store = storeMost;
        }
    }

    private void passHour(int s, int wantedByWarmth) {
        Ice ice = iceOf(s);
        Session session = standingAt(s, now);
        int wanted = wantedByWarmth + heatOf(session);
        int given = Math.min(wanted, store);
        store -= given;
        ice.melt(wanted - given);
        if (session != null) {
            ice.decide(session);
        } else if (!ice.closed.has(now)) {
            makeCut(ice);
        }
    }

    private void makeCut(Ice ice) {
        ice.shave();
        int frozen = Math.min(ice.toFlood, store / COLD_OF_FLOOD);
        store -= frozen * COLD_OF_FLOOD;
        waste += ice.toFlood - frozen;
        ice.freeze(frozen);
        ice.tellCut(0, 0);
    }

    private int partOf(int c, int pence, int all) {
        if (all <= 0) {
            return NONE;
        }
        int left = pence;
        int inFront = 0;
        int own = pence * countInState(c, HELD);
        for (int other = 0; other < CLUBS; other++) {
            int product = pence * countInState(other, HELD);
            left -= product / all;
            boolean lower = other < c && product % all == own % all;
            if (lower || product % all > own % all) {
                inFront++;
            }
        }
        return own / all + (inFront < left ? 1 : 0);
    }

    /** A set of HOURS, a bit for each: the last one that a session can be moved to is 1992. */
    private static final class HourSet {
        static final int WORDS = 32;
        static final int BOUND = WORDS * 64;

        final long[] words = new long[WORDS];

        boolean has(int hour) {
            return hour >= 0 && hour < BOUND && (words[hour / 64] >>> (hour % 64) & 1L) != 0L;
        }

        void put(int hour) {
            if (hour >= 0 && hour < BOUND) {
                words[hour / 64] |= 1L << (hour % 64);
            }
        }

        void drop(int hour) {
            if (hour >= 0 && hour < BOUND) {
                words[hour / 64] &= ~(1L << (hour % 64));
            }
        }
    }

    /** A sheet: its ice, the cut told for it, and the HOURS that are taken and closed on it. */
    private static final class Ice {
        final HourSet taken = new HourSet();
        final HourSet closed = new HourSet();
        int closings = 0;
        int thickness = 300;
        int ruts = 0;
        int shaved = 0;
        int flooded = 0;
        int melted = 0;
        // No cut told is the same as one of no tenths.
        int toShave = 0;
        int toFlood = 0;

        boolean hasRoom(int hour, int restMost) {
            return !taken.has(hour) && !closed.has(hour) && runThrough(hour) <= restMost;
        }

        /** How many would stand one behind the other if this HOUR were taken. */
        int runThrough(int hour) {
            int run = 1;
            for (int h = hour - 1; h >= 0 && taken.has(h); h--) {
                run++;
            }
            for (int h = hour + 1; h < HourSet.BOUND && taken.has(h); h++) {
                run++;
            }
            return run;
        }

        void tellCut(int tenthsOff, int tenthsOn) {
            toShave = tenthsOff;
            toFlood = tenthsOn;
        }

        void melt(int lacking) {
            int gone = Math.min(lacking, thickness);
            thickness -= gone;
            melted += gone;
        }

        void decide(Session session) {
            if (thickness < THICKNESS_LEAST) {
                session.lose(1);
            } else if (thickness > THICKNESS_MOST) {
                session.lose(2);
            } else if (ruts > RUTS_MOST) {
                session.lose(3);
            } else {
                session.hold();
                ruts += ofKind(RUTS_OF_KIND, session.kind);
            }
        }

        void shave() {
            int off = Math.min(toShave, thickness);
            thickness -= off;
            shaved += off;
            ruts = Math.max(0, ruts - off * RUTS_OF_SHAVE);
        }

        void freeze(int tenths) {
            thickness += tenths;
            flooded += tenths;
        }
    }

    /** A session that was BOOKED once; FEE and hundredths stay those of its booking. */
    private static final class Session {
        final int byClub;
        final int kind;
        final int fee;
        final int hundredths;
        int onSheet;
        int hour;
        int state = BOOKED;
        int whyLost = 0;
        int owes = 0;
        int timesMoved = 0;

        Session(int byClub, int kind, int onSheet, int hour, Rights inForce) {
            this.byClub = byClub;
            this.kind = kind;
            this.onSheet = onSheet;
            this.hour = hour;
            this.fee = inForce == null ? 0 : inForce.fee;
            this.hundredths = inForce == null ? 0 : inForce.hundredths;
        }

        boolean stands() {
            return state == BOOKED || state == HELD || state == LOST;
        }

        void hold() {
            state = HELD;
            owes = fee;
        }

        void lose(int why) {
            state = LOST;
            whyLost = why;
        }

        void moveTo(int newSheet, int newHour) {
            onSheet = newSheet;
            hour = newHour;
            timesMoved++;
        }
    }

    /** RIGHTS: sets of CLOCKS, DAYS and KINDS as bits, and the numbers; made, they are as at first. */
    private static final class Rights {
        static final int ALL_CLOCKS = (1 << CLOCKS) - 1;
        static final int ALL_DAYS = (1 << DAYS) - 1;
        static final int ALL_KINDS = (1 << KINDS) - 1;

        int clocks = ALL_CLOCKS;
        int days = ALL_DAYS;
        int kinds = ALL_KINDS;
        int inWeek = 168;
        int fee = 100;
        int hundredths = 50;

        boolean let(int kind, int hour) {
            return isIn(clocks, hour % CLOCKS) && isIn(days, hour / CLOCKS % DAYS) && isIn(kinds, kind);
        }

        private static boolean isIn(int bits, int number) {
            return (bits >> number & 1) != 0;
        }
    }

    /** The bytes that were fed and not yet read. */
    private static final class Tape {
        final byte[] bytes = new byte[TAPE_MOST];
        int size = 0;

        void addWord(int word) {
            for (int shift = 24; shift >= 0; shift -= 8) {
                if (isBelow(size, TAPE_MOST)) {
                    bytes[size] = (byte) (word >> shift);
                    size++;
                }
            }
        }
    }

    /** Reads a TEXT of RIGHTS from left to right and stops at its first FAULT. */
    private static final class RightsReader {
        static final int END = -1;
        static final int DIGITS_MOST = 4;

        final Tape tape;
        int end;
        int place;
        int fault;

        RightsReader(Tape tape) {
            this.tape = tape;
        }

        /** Reads the first n bytes of the tape: 0, or the FAULT and its place. */
        int readInto(Rights told, int n) {
            end = n;
            place = 0;
            fault = 0;
            int windows = 0;
            boolean more = true;
            for (int clause = 0; clause <= TAPE_MOST && more; clause++) {
                windows |= readClause(told);
                more = fault == 0 && readOn();
            }
            if (windows != 0) {
                told.clocks = windows;
            }
            return fault;
        }

        /** Reads one CLAUSE: the CLOCKS that it adds (of a w alone). */
        private int readClause(Rights told) {
            int letter = peek();
            place++;
            switch (letter) {
                case 'w':
                    return readWindow();
                case 'd':
                    told.days = readDigits(6, DAYS);
                    return 0;
                case 'k':
                    told.kinds = readDigits(3, KINDS);
                    return 0;
                case 'n':
                    told.inWeek = readNumber(0, 999);
                    return 0;
                case 'f':
                    told.fee = readNumber(0, 9999);
                    return 0;
                case 'c':
                    told.hundredths = readNumber(0, 100);
                    return 0;
                default:
                    fail(CANNOT_STAND, place - 1);
                    return 0;
            }
        }

        /** Whether a ; and so another CLAUSE follows; what is neither that nor the end is a FAULT. */
        private boolean readOn() {
            int next = peek();
            if (next == END) {
                return false;
            }
            if (next != ';') {
                fail(CANNOT_STAND, place);
                return false;
            }
            place++;
            return true;
        }

        private int readWindow() {
            int from = readNumber(0, CLOCKS - 1);
            if (fault != 0) {
                return 0;
            }
            if (peek() != '-') {
                fail(CANNOT_STAND, place);
                return 0;
            }
            place++;
            int to = readNumber(from + 1, CLOCKS);
            return fault == 0 ? (1 << to) - (1 << from) : 0;
        }

        private int readDigits(int greatest, int most) {
            int bits = 0;
            int start = place;
            for (int i = 0; i < most && isDigit(); i++) {
                int digit = peek() - '0';
                if (digit > greatest) {
                    fail(CANNOT_BE, place);
                    return bits;
                }
                bits |= 1 << digit;
                place++;
            }
            if (place == start || isDigit()) {
                fail(CANNOT_STAND, place);
            }
            return bits;
        }

        private int readNumber(int least, int greatest) {
            int number = 0;
            int start = place;
            for (int i = 0; i < DIGITS_MOST && isDigit(); i++) {
                number = number * 10 + peek() - '0';
                place++;
            }
            if (place == start || isDigit()) {
                fail(CANNOT_STAND, place);
            } else if (number < least || number > greatest) {
                fail(CANNOT_BE, start);
            }
            return number;
        }

        private boolean isDigit() {
            int next = peek();
            return next >= '0' && next <= '9';
        }

        private int peek() {
            return place >= 0 && place < end && place < TAPE_MOST ? tape.bytes[place] & 255 : END;
        }

        private void fail(int kind, int where) {
            fault = 100 * kind + where;
        }
    }

    /**
     * Finds where the sessions of a closed sheet go. A way is a number of the row, 0 to 14, and ways
     * are tried in that order: so the first row found of a cost is the least one of that cost.
     */
    private static final class Mover {
        final Ice firstIce;
        final Ice secondIce;
        final Session[] moved = new Session[MOVED_MOST];
        final int[] row = new int[MOVED_MOST];
        final int[] bestRow = new int[MOVED_MOST];
        // The least that the sessions from one on can cost, each as if it were alone.
        final int[] leastFrom = new int[MOVED_MOST + 1];
        int size;
        int bestCost;
        int earliest;
        int restMost;

        Mover(Ice firstIce, Ice secondIce) {
            this.firstIce = firstIce;
            this.secondIce = secondIce;
        }

        void begin() {
            size = 0;
        }

        boolean add(Session session) {
            if (!isBelow(size, MOVED_MOST)) {
                return false;
            }
            moved[size] = session;
            size++;
            return true;
        }

        void search(int now, int rest) {
            earliest = now;
            restMost = rest;
            bestCost = LEFT_OUT_COST * (MOVED_MOST + 1);
            int least = 0;
            for (int i = MOVED_MOST; i >= 0; i--) {
                least += i < size ? leastAlone(i) : 0;
                leastFrom[i] = least;
            }
            searchFrom(this, 0, 0);
        }

        /** Does what the search found: how many are LEFT OUT. */
        int carryOut() {
            int leftOut = 0;
            for (int i = 0; i < size && i < MOVED_MOST; i++) {
                Session session = moved[i];
                if (session != null && bestRow[i] == LEFT_OUT_WAY) {
                    session.state = LEFT_OUT;
                    leftOut++;
                } else if (session != null) {
                    int hour = hourOf(i, bestRow[i]);
                    iceOfWay(bestRow[i]).taken.put(hour);
                    session.moveTo(bestRow[i] % SHEETS, hour);
                }
            }
            return leftOut;
        }

        private static void searchFrom(Mover m, int i, int costSoFar) {
            if (i >= m.size || i >= MOVED_MOST) {
                m.keepBest(costSoFar);
                return;
            }
            for (int way = 0; way <= LEFT_OUT_WAY; way++) {
                int costNow = costSoFar + costOf(way);
                // Later ways cost no less, and a row that is only as good comes behind.
                if (costNow + m.leastFrom[i + 1] >= m.bestCost) {
                    return;
                }
                m.row[i] = way;
                if (way == LEFT_OUT_WAY) {
                    searchFrom(m, i + 1, costNow);
                } else if (m.canGo(i, way)) {
                    HourSet taken = m.iceOfWay(way).taken;
                    int hour = m.hourOf(i, way);
                    taken.put(hour);
                    searchFrom(m, i + 1, costNow);
                    taken.drop(hour);
                }
            }
        }

        private void keepBest(int costOfRow) {
            if (costOfRow < bestCost) {
                bestCost = costOfRow;
                System.arraycopy(row, 0, bestRow, 0, MOVED_MOST);
            }
        }

        private int leastAlone(int i) {
            for (int way = 0; way < LEFT_OUT_WAY; way++) {
                if (canGo(i, way)) {
                    return costOf(way);
                }
            }
            return LEFT_OUT_COST;
        }

        /**
         * Asked as each one is set down: a run only grows, and the last one set down in it
         * sees it whole, so that is REST as all stand in the end.
         */
        private boolean canGo(int i, int way) {
            int hour = hourOf(i, way);
            return hour >= earliest && iceOfWay(way).hasRoom(hour, restMost);
        }

        private int hourOf(int i, int way) {
            Session session = isBelow(i, MOVED_MOST) ? moved[i] : null;
            return session == null ? NONE : session.hour + shiftOf(way);
        }

        private Ice iceOfWay(int way) {
            return way % SHEETS == 0 ? firstIce : secondIce;
        }

        private static int shiftOf(int way) {
            int goes = way / SHEETS;
            return isBelow(goes, SHIFT_OF_PLACE.length) ? SHIFT_OF_PLACE[goes] : 0;
        }

        private static int costOf(int way) {
            return way == LEFT_OUT_WAY ? LEFT_OUT_COST : Math.abs(shiftOf(way));
        }
    }

    /**
     * Finds the cheapest PLAN. What is in store ahead of an HOUR hangs only on how many HOURS of
     * COMPRESSORS have been used till then, so the best rest of a plan is kept for each such number.
     */
    private static final class Planner {
        static final int USED_BOUND = PLAN_MOST * COMPRESSORS_MOST + 1;
        // One pence counts more than all HOURS of COMPRESSORS of a plan.
        static final int WEIGHT_OF_PENCE = 100;
        static final int NEVER = 1000000000;

        // What is wanted in all HOURS of the plan ahead of one.
        final int[] wantedAhead = new int[PLAN_MOST + 1];
        final int[] priceIn = new int[PLAN_MOST];
        final int[] best = new int[(PLAN_MOST + 1) * USED_BOUND];
        final int[] row = new int[PLAN_MOST];
        int rowSize = 0;
        int size;
        int store;
        int storeMost;
        int working;

        void begin() {
            size = 0;
        }

        void addHour(int wanted, int pence) {
            if (isBelow(size, PLAN_MOST)) {
                priceIn[size] = pence;
                wantedAhead[size + 1] = wantedAhead[size] + wanted;
                size++;
            }
        }

        /** Keeps the best row and answers its COST; NONE, and the row before stays, if there is none. */
        int solve(int storeNow, int mostNow, int workingNow) {
            store = storeNow;
            storeMost = mostNow;
            working = workingNow;
            for (int used = 0; used < USED_BOUND; used++) {
                best[size * USED_BOUND + used] = 0;
            }
            for (int i = size - 1; i >= 0; i--) {
                for (int used = 0; used <= i * COMPRESSORS_MOST; used++) {
                    best[i * USED_BOUND + used] = leastOver(i, used);
                }
            }
            if (best[0] >= NEVER) {
                return NONE;
            }
            keepRow();
            return best[0] / WEIGHT_OF_PENCE;
        }

        private int leastOver(int i, int used) {
            int least = NEVER;
            for (int on = 0; on <= working; on++) {
                least = Math.min(least, weightWith(i, used, on));
            }
            return least;
        }

        private void keepRow() {
            rowSize = size;
            int used = 0;
            for (int i = 0; i < size; i++) {
                int on = leastOn(i, used);
                row[i] = on;
                used += on;
            }
        }

        private int leastOn(int i, int used) {
            int least = leastOver(i, used);
            for (int on = 0; on < working; on++) {
                if (weightWith(i, used, on) == least) {
                    return on;
                }
            }
            return working;
        }

        /** The weight of the best rest of a plan from HOUR i on with so many on in it. */
        private int weightWith(int i, int used, int on) {
            int cold = store + COLD_OF_COMPRESSOR * (used + on);
            int next = (i + 1) * USED_BOUND + used + on;
            if (cold - wantedAhead[i] > storeMost || cold - wantedAhead[i + 1] < 0) {
                return NEVER;
            }
            if (!isBelow(next, best.length) || best[next] >= NEVER) {
                return NEVER;
            }
            return best[next] + on * (priceIn[i] * WEIGHT_OF_PENCE + 1);
        }
    }
}
