/**
 * Maps that show only where one was refused: travellers of several kinds go hour by hour over a
 * land of sixteen cells, by charts on which they draw where they were told no.
 */
public final class RefusalMaps {
    public static final int NONE = -1, BAD = -2, STATE = -3, FULL = -4;
    public static final long NO = Long.MIN_VALUE;

    private static final int MISSING = -5;
    private static final int NO_WELCOME = -10001;
    private static final int NOTHING = -11, CAST = -12, PLACE = -13, SIZE = -14;

    private static final int CELLS = 16, ALL_CELLS = 65535;
    private static final int TRAVELLERS = 6, ALL_TRAVELLERS = 63, VALUES = 10, PARTS = 4;
    private static final int TRAVELLER = 0, BEAUTY = 1, SAILOR = 2, CHILD = 3, SOLDIER = 4, OLD = 5, TOLD = 6;
    private static final int KINDS = 7;
    private static final int NATIONS = 6, TAPES = 6;
    private static final int LAST_HOUR = 9999, MOST_HOURS = 40, MOST_SEEN_HOURS = 12;
    private static final int BYTES = 0;
    /** The kind right above each kind; a kind's number is always greater than that above it. */
    private static final int[] ABOVE = {-1, 0, 0, 0, 1, 2, 3};

    private final Land now;
    /** What is asked goes on here, so that nothing asked changes what is. */
    private final Land trial;
    private final Hand hand = new Hand();
    private final Land imageLand;
    private final Hand imageHand = new Hand();
    private boolean imageTaken;
    private final Reader reader = new Reader();
    private int nations;
    private final Acts acts = new Acts();
    private final Tape[] tapes = new Tape[TAPES];

    public RefusalMaps() {
        Nation nobody = new Nation(new int[0], 0);
        now = new Land(nobody);
        trial = new Land(nobody);
        imageLand = new Land(nobody);
        for (int i = 0; i < TAPES; i++) {
            tapes[i] = new Tape();
        }
    }

    // ---- travellers, gates, nations

    public int traveller(int kind, int v, int cell) {
        if (kind < 0 || kind >= KINDS || !isCell(cell)) {
            return NONE;
        }
        if (v < 0 || v >= VALUES) {
            return BAD;
        }
        if (now.travellers >= TRAVELLERS) {
            return FULL;
        }
        return now.welcomeNew(kind, v, cell);
    }

    public int of(int traveller, int what) {
        if (!isTraveller(traveller)) {
            return NONE;
        }
        switch (what) {
            case 0: return now.kinds[traveller];
            case 1: return now.values[traveller];
            case 2: return now.places[traveller];
            case 3: return orMissing(now.goals[traveller]);
            case 4: return now.charts[traveller];
            case 5: return now.noes[traveller];
            case 6: return thereOf(traveller);
            case 7: return now.refusals(traveller);
            case 8: return lentFor(traveller);
            case 9: return keyFor(traveller);
            case 10: return fromOf(traveller);
            default: return NONE;
        }
    }

    public int welcome(int traveller, int cell) {
        if (!isTraveller(traveller) || !isCell(cell)) {
            return NO_WELCOME;
        }
        return now.welcomeOf(traveller, cell);
    }

    public int goal(int traveller, int cell) {
        if (!isTraveller(traveller) || cell != -1 && !isCell(cell)) {
            return NONE;
        }
        int before = now.goals[traveller];
        now.goals[traveller] = cell;
        return orMissing(before);
    }

    public int put(int traveller, int cell) {
        if (!isTraveller(traveller) || !isCell(cell)) {
            return NONE;
        }
        int before = now.places[traveller];
        now.places[traveller] = cell;
        return before;
    }

    public int chart(int traveller, int cells) {
        if (!isTraveller(traveller)) {
            return NONE;
        }
        if (!isChart(cells)) {
            return BAD;
        }
        int before = now.charts[traveller];
        now.charts[traveller] = cells;
        return before;
    }

    public int gate(int cell, int n) {
        if (!isCell(cell)) {
            return NONE;
        }
        if (n < 0 || n >= VALUES) {
            return BAD;
        }
        int before = now.gates[cell];
        now.gates[cell] = n;
        return before;
    }

    public int row(int traveller, int part, int n) {
        if (!isTraveller(traveller) || part < 0 || part >= PARTS) {
            return NONE;
        }
        if (n < 0 || n >= VALUES) {
            return BAD;
        }
        if (now.kinds[traveller] != TOLD) {
            return STATE;
        }
        int place = PARTS * traveller + part;
        int before = now.rows[place];
        now.rows[place] = n;
        return before;
    }

    public int feed(int sign) {
        if (sign < 0 || sign > 127) {
            return BAD;
        }
        if (reader.length >= Reader.MOST_SIGNS) {
            return FULL;
        }
        return reader.append(sign);
    }

    public int nation() {
        if (nations >= NATIONS) {
            return FULL;
        }
        boolean whole = reader.parseText();
        reader.length = 0;
        if (!whole) {
            return -10 - reader.place;
        }
        now.nation = reader.newNation();
        nations++;
        return nations - 1;
    }

    public int told(int what) {
        if (what >= 10 && what < 10 + CELLS) {
            return now.gates[what - 10];
        }
        switch (what) {
            case 0: return now.hour;
            case 1: return now.nation.fade;
            case 2: return now.atGoals();
            case 3: return now.allNoes();
            default: return NONE;
        }
    }

    // ---- hours, ways

    public int pass(int n) {
        if (!isHours(n)) {
            return BAD;
        }
        if (now.hour + n > LAST_HOUR) {
            return STATE;
        }
        now.goHours(n, Land.MOST_NOES);
        return now.hour;
    }

    public int on(int n, int what) {
        int sort = what / 10;
        int one = what % 10;
        if (sort < 1 || sort > 3 || !isTraveller(one)) {
            return NONE;
        }
        if (!isHours(n)) {
            return BAD;
        }
        trial.tryFor(now, 1 << one);
        trial.goHours(n, Land.NO_LIMIT);
        switch (sort) {
            case 1: return trial.places[one];
            case 2: return trial.charts[one];
            default: return trial.noes[one];
        }
    }

    public int way(int traveller, int cell, int k) {
        if (!isTraveller(traveller) || !isCell(cell) || k < -1 || k > CELLS - 2) {
            return NONE;
        }
        int from = now.places[traveller];
        int drawn = now.charts[traveller];
        return k < 0 ? Ways.length(from, cell, drawn) : Ways.kthCell(from, cell, drawn, k);
    }

    public int straight(int traveller, int cell) {
        if (!isTraveller(traveller) || !isCell(cell)) {
            return NONE;
        }
        return Ways.length(now.places[traveller], cell, now.refusals(traveller));
    }

    // ---- seen, odds

    public int see(int traveller, int n, int cell) {
        if (traveller == -1) {
            return hand.seen.empty();
        }
        if (!isTraveller(traveller) || !isCell(cell)) {
            return NONE;
        }
        if (n < 0 || n > MOST_SEEN_HOURS) {
            return BAD;
        }
        return hand.seen.isFull() ? FULL : hand.seen.append(traveller, n, cell);
    }

    public int can(int traveller, int what) {
        if (!isTraveller(traveller) || what < 0 || what > 1) {
            return NONE;
        }
        int possible = valuesOf(traveller);
        if (what == 0) {
            return Integer.bitCount(possible);
        }
        return possible == 0 ? MISSING : Ways.least(possible);
    }

    public long odds(int traveller, int part) {
        if (!isTraveller(traveller) || part < 0 || part > 1) {
            return NO;
        }
        int within = Ways.reach(now.places[traveller], now.refusals(traveller));
        return lowest(Integer.bitCount(within), CELLS, part);
    }

    public long mean(int part) {
        if (part < 0 || part > 1 || now.travellers == 0) {
            return NO;
        }
        return lowest(now.allDrawn(), now.travellers, part);
    }

    // ---- plans, books

    public int plan(int what, int n) {
        if (what == -1) {
            return hand.plan.empty();
        }
        if (!isPlanRow(what, n)) {
            return NONE;
        }
        return hand.plan.isFull() ? FULL : hand.plan.append(what, n, 0);
    }

    public int ends(int what) {
        if (what < 0 || what > 1) {
            return NONE;
        }
        trial.copyFrom(now);
        for (int i = 0; i < hand.plan.rows; i++) {
            trial.goPlanned(hand.plan.first(i), hand.plan.second(i));
        }
        return what == 0 ? Integer.bitCount(trial.atGoals()) : trial.allNoes();
    }

    public int book(int traveller, int cells) {
        if (traveller == -1) {
            return hand.book.empty();
        }
        if (!isTraveller(traveller)) {
            return NONE;
        }
        if (!isChart(cells)) {
            return BAD;
        }
        return hand.book.isFull() ? FULL : hand.book.append(traveller, cells, 0);
    }

    public int looked() {
        for (int i = 0; i < hand.book.rows; i++) {
            int one = hand.book.first(i);
            if (isTraveller(one) && now.charts[one] != hand.book.second(i)) {
                return i;
            }
        }
        return MISSING;
    }

    // ---- judging, the image, acts, tapes

    public int judge(int tape, int i) {
        if (!isTape(tape)) {
            return NONE;
        }
        Tape told = tapes[tape];
        if (told.isThere() && told.sort != BYTES) {
            return CAST;
        }
        if (i < 0 || !told.isThere()) {
            return 100;
        }
        for (int cell = 0; cell < CELLS; cell++) {
            // Taken from the length, since i may be so great that i + cell wraps.
            if (i >= told.length - cell) {
                return 100 + cell;
            }
            if (told.items[i + cell] != now.gates[cell]) {
                return cell;
            }
        }
        return MISSING;
    }

    public int image() {
        imageLand.copyFrom(now);
        imageHand.copyFrom(hand);
        imageTaken = true;
        return now.travellers;
    }

    public int undo() {
        if (!imageTaken) {
            return STATE;
        }
        now.copyFrom(imageLand);
        hand.copyFrom(imageHand);
        return now.travellers;
    }

    public int act(int traveller, int act, int x) {
        acts.ran = 0;
        if (!isTraveller(traveller) || act < 0 || act >= Acts.ACTS) {
            return 0;
        }
        return acts.begin(traveller, now.kinds[traveller], now.values[traveller], act, x);
    }

    public int trace(int i) {
        return i < 0 || i >= acts.kept() ? NONE : acts.bodies[i];
    }

    public int taken(int traveller, int k) {
        if (k < 0 || k >= KINDS) {
            return BAD;
        }
        if (!isTraveller(traveller)) {
            return NOTHING;
        }
        int kind = now.kinds[traveller];
        return isUnder(kind, k) ? kind : CAST;
    }

    public int count(int what) {
        switch (what) {
            case 0: return now.travellers;
            case 1: return nations;
            case 2: return hand.seen.rows;
            case 3: return hand.plan.rows;
            case 4: return hand.book.rows;
            case 5: return reader.length;
            case 6: return acts.ran;
            default: return BAD;
        }
    }

    public int tape(int tape, int sort, int n) {
        if (!isTape(tape)) {
            return NONE;
        }
        if (sort == -1) {
            tapes[tape].become(-1, 0);
            return 1;
        }
        if (sort < 0 || sort >= Tape.SORTS || n > Tape.MOST_ITEMS) {
            return BAD;
        }
        if (n < 0) {
            return SIZE;
        }
        tapes[tape].become(sort, n);
        return 1;
    }

    public int item(int tape, int i, long v) {
        if (!isTape(tape)) {
            return NONE;
        }
        Tape row = tapes[tape];
        if (!row.isThere()) {
            return NOTHING;
        }
        if (i < 0 || i >= row.length) {
            return PLACE;
        }
        row.items[i] = row.cut(v);
        return 1;
    }

    public long read(int tape, int i) {
        if (!isTape(tape)) {
            return NO;
        }
        Tape row = tapes[tape];
        return i < 0 || i >= row.length ? NO : row.items[i];
    }

    public int shift(int tape, int i, int other, int j, int n) {
        if (!isTape(tape) || !isTape(other)) {
            return NONE;
        }
        Tape from = tapes[tape];
        Tape to = tapes[other];
        if (!from.isThere() || !to.isThere()) {
            return NOTHING;
        }
        if (from.sort != to.sort) {
            return CAST;
        }
        if (!from.holds(i, n) || !to.holds(j, n)) {
            return PLACE;
        }
        System.arraycopy(from.items, i, to.items, j, n);
        return n;
    }

    // ---- what a number may be

    private boolean isTraveller(int number) {
        return number >= 0 && number < now.travellers;
    }

    private static boolean isCell(int number) {
        return number >= 0 && number < CELLS;
    }

    private static boolean isChart(int cells) {
        return cells >= 0 && cells <= ALL_CELLS;
    }

    private static boolean isHours(int n) {
        return n >= 0 && n <= MOST_HOURS;
    }

    private static boolean isTape(int number) {
        return number >= 0 && number < TAPES;
    }

    private boolean isPlanRow(int what, int n) {
        switch (what) {
            case Land.PLAN_HOUR: return true;
            case Land.PLAN_CLEAR:
            case Land.PLAN_NO_GOAL: return isTraveller(n);
            case Land.PLAN_LEND: return isTraveller(n / 10) && isTraveller(n % 10);
            default: return false;
        }
    }

    private static boolean isUnder(int kind, int above) {
        int at = kind;
        for (int i = 0; i < KINDS && at >= 0 && at < KINDS; i++) {
            if (at == above) {
                return true;
            }
            at = ABOVE[at];
        }
        return false;
    }

    private static int orMissing(int number) {
        return number < 0 ? MISSING : number;
    }

    // ---- what is asked

    private int thereOf(int one) {
        trial.tryFor(now, 1 << one);
        return trial.hoursToGoal(one, MOST_HOURS);
    }

    private int keyFor(int one) {
        trial.tryFor(now, 1 << one);
        int least = trial.hoursToGoal(one, MOST_HOURS);
        if (least < 0) {
            least = MOST_HOURS + 1;
        }
        int key = MISSING;
        for (int cell = 0; cell < CELLS; cell++) {
            trial.tryFor(now, 1 << one);
            trial.gates[cell] = VALUES - 1;
            // Only what is less counts, so the trial need not go on for longer.
            int hours = trial.hoursToGoal(one, least - 1);
            if (hours >= 0) {
                least = hours;
                key = cell;
            }
        }
        return key;
    }

    private int lentFor(int one) {
        int goal = now.goals[one];
        if (goal < 0) {
            return MISSING;
        }
        int refusals = now.refusals(one);
        int fewest = TRAVELLERS + 1;
        int lent = MISSING;
        for (int set = 0; set < 1 << now.travellers; set++) {
            int size = Integer.bitCount(set);
            if ((set >> one & 1) == 0 && size < fewest) {
                int drawn = now.charts[one] | now.chartsOf(set);
                if (Ways.avoids(now.places[one], goal, drawn, refusals)) {
                    fewest = size;
                    lent = set;
                }
            }
        }
        return lent;
    }

    private int fromOf(int one) {
        int seen = seenOnes();
        int cells = 0;
        for (int cell = 0; cell < CELLS; cell++) {
            trial.tryFor(now, seen);
            trial.places[one] = cell;
            if (seenHolds()) {
                cells |= 1 << cell;
            }
        }
        return cells;
    }

    private int valuesOf(int one) {
        int seen = seenOnes();
        int values = 0;
        for (int v = 0; v < VALUES; v++) {
            trial.tryFor(now, seen);
            trial.values[one] = v;
            if (seenHolds()) {
                values |= 1 << v;
            }
        }
        return values;
    }

    /** The travellers, as bits, of whom something is seen. */
    private int seenOnes() {
        int set = 0;
        for (int i = 0; i < hand.seen.rows; i++) {
            set |= 1 << hand.seen.first(i);
        }
        return set;
    }

    /** Whether all that is seen is so, if it goes on from the trial. */
    private boolean seenHolds() {
        int last = 0;
        for (int i = 0; i < hand.seen.rows; i++) {
            last = Math.max(last, hand.seen.second(i));
        }
        for (int hours = 0; hours <= last && hours <= MOST_SEEN_HOURS; hours++) {
            if (hours > 0) {
                trial.goHours(1, Land.NO_LIMIT);
            }
            if (!seenHoldsAt(hours)) {
                return false;
            }
        }
        return true;
    }

    private boolean seenHoldsAt(int hours) {
        for (int i = 0; i < hand.seen.rows; i++) {
            int one = hand.seen.first(i);
            if (hand.seen.second(i) == hours && isTraveller(one) && trial.places[one] != hand.seen.third(i)) {
                return false;
            }
        }
        return true;
    }

    /** One part of a fraction in lowest terms: 0 above, 1 below the line. */
    private static long lowest(int above, int below, int part) {
        int divisor = below;
        int rest = above;
        for (int i = 0; i < 64 && rest != 0; i++) {
            int next = divisor % rest;
            divisor = rest;
            rest = next;
        }
        if (divisor == 0) {
            return NO;
        }
        return (part == 0 ? above : below) / divisor;
    }

    /** Gates, travellers with all that is theirs, the hour, and the nation that holds. */
    private static final class Land {
        /** What is asked goes on for 40 hours at most, each with one more at most: that never comes to NO_LIMIT. */
        static final int MOST_NOES = 9999, NO_LIMIT = 1_000_000;
        static final int PLAN_HOUR = 0, PLAN_CLEAR = 1, PLAN_LEND = 2, PLAN_NO_GOAL = 3;

        final int[] gates = new int[CELLS];
        int travellers;
        final int[] kinds = new int[TRAVELLERS];
        final int[] values = new int[TRAVELLERS];
        final int[] places = new int[TRAVELLERS];
        /** -1 stands for no goal. */
        final int[] goals = new int[TRAVELLERS];
        final int[] charts = new int[TRAVELLERS];
        final int[] noes = new int[TRAVELLERS];
        final int[] rows = new int[PARTS * TRAVELLERS];
        int hour;
        Nation nation;
        /** The travellers, as bits, who go on in a trial. */
        private int going = ALL_TRAVELLERS;
        private final int[] facts = new int[Nation.FACTS];

        Land(Nation nobody) {
            nation = nobody;
            for (int cell = 0; cell < CELLS; cell++) {
                gates[cell] = 3;
            }
        }

        /**
         * Becomes as the other, for a trial in which only what some travellers do is looked at.
         * Soldiers alone look at where others are, so without one the rest may stand still.
         */
        void tryFor(Land other, int looked) {
            copyFrom(other);
            going = looked;
            for (int one = 0; one < travellers; one++) {
                if (kinds[one] == SOLDIER && (looked >> one & 1) != 0) {
                    going = ALL_TRAVELLERS;
                }
            }
        }

        void copyFrom(Land other) {
            going = ALL_TRAVELLERS;
            System.arraycopy(other.gates, 0, gates, 0, CELLS);
            travellers = other.travellers;
            System.arraycopy(other.kinds, 0, kinds, 0, TRAVELLERS);
            System.arraycopy(other.values, 0, values, 0, TRAVELLERS);
            System.arraycopy(other.places, 0, places, 0, TRAVELLERS);
            System.arraycopy(other.goals, 0, goals, 0, TRAVELLERS);
            System.arraycopy(other.charts, 0, charts, 0, TRAVELLERS);
            System.arraycopy(other.noes, 0, noes, 0, TRAVELLERS);
            System.arraycopy(other.rows, 0, rows, 0, PARTS * TRAVELLERS);
            hour = other.hour;
            nation = other.nation;
        }

        /** The caller has looked that there is room for one more. */
        int welcomeNew(int kind, int v, int cell) {
            int one = travellers;
            kinds[one] = kind;
            values[one] = v;
            places[one] = cell;
            goals[one] = -1;
            charts[one] = 0;
            noes[one] = 0;
            for (int part = 0; part < PARTS; part++) {
                rows[PARTS * one + part] = 0;
            }
            travellers = one + 1;
            return one;
        }

        int welcomeOf(int one, int cell) {
            int v = values[one];
            facts[0] = one;
            facts[1] = kinds[one];
            facts[2] = v;
            facts[3] = cell;
            facts[4] = gates[cell];
            facts[5] = hour % 10;
            int sum = gates[cell] + nation.openLessShut(facts);
            switch (kinds[one]) {
                case BEAUTY: return sum + v;
                case SAILOR: return sum / 2 + 1;
                case CHILD: return cell < v ? 9 : sum;
                case SOLDIER: return sum + v - (isOtherAt(one, cell) ? 8 : 0);
                case OLD: return sum / 2 + 1 + Integer.bitCount(charts[one]) / 2;
                case TOLD: return (cell < v ? 9 : sum) + rows[PARTS * one + cell % PARTS] - 4;
                default: return sum;
            }
        }

        private boolean isOtherAt(int one, int cell) {
            for (int other = 0; other < travellers; other++) {
                if (other != one && places[other] == cell) {
                    return true;
                }
            }
            return false;
        }

        /** The cells, as bits, at which one is refused as all is now. */
        int refusals(int one) {
            int cells = 0;
            for (int cell = 0; cell < CELLS; cell++) {
                if (welcomeOf(one, cell) <= 0) {
                    cells |= 1 << cell;
                }
            }
            return cells;
        }

        void goHours(int n, int mostNoes) {
            for (int i = 0; i < n; i++) {
                for (int one = 0; one < travellers; one++) {
                    if ((going >> one & 1) != 0 && goals[one] >= 0 && goals[one] != places[one]) {
                        goOn(one, mostNoes);
                    }
                }
                if (nation.fade > 0 && hour % nation.fade == 0) {
                    fadeCharts();
                }
                hour++;
            }
        }

        private void goOn(int one, int mostNoes) {
            int cell = Ways.firstCell(places[one], goals[one], charts[one]);
            if (cell < 0) {
                return;
            }
            if (welcomeOf(one, cell) > 0) {
                places[one] = cell;
                return;
            }
            charts[one] |= 1 << cell;
            if (noes[one] < mostNoes) {
                noes[one]++;
            }
        }

        private void fadeCharts() {
            for (int one = 0; one < travellers; one++) {
                charts[one] &= charts[one] - 1;
            }
        }

        /** The fewest hours, most at most, behind which one is at its goal; it goes on here. */
        int hoursToGoal(int one, int most) {
            if (goals[one] < 0) {
                return MISSING;
            }
            for (int hours = 0; hours <= most && hours <= MOST_HOURS; hours++) {
                if (places[one] == goals[one]) {
                    return hours;
                }
                if (hours < most) {
                    goHours(1, NO_LIMIT);
                }
            }
            return MISSING;
        }

        void goPlanned(int what, int n) {
            if (what == PLAN_HOUR) {
                goHours(1, NO_LIMIT);
                return;
            }
            int one = what == PLAN_LEND ? n / 10 : n;
            if (one < 0 || one >= travellers) {
                return;
            }
            if (what == PLAN_CLEAR) {
                charts[one] = 0;
            } else if (what == PLAN_NO_GOAL) {
                goals[one] = -1;
            } else {
                charts[one] |= chartsOf(1 << n % 10);
            }
        }

        /** All that is drawn on the charts of a set of travellers, told as bits. */
        int chartsOf(int set) {
            int cells = 0;
            for (int one = 0; one < travellers; one++) {
                if ((set >> one & 1) != 0) {
                    cells |= charts[one];
                }
            }
            return cells;
        }

        /** The travellers, as bits, who are at their goals. */
        int atGoals() {
            int set = 0;
            for (int one = 0; one < travellers; one++) {
                if (places[one] == goals[one]) {
                    set |= 1 << one;
                }
            }
            return set;
        }

        int allNoes() {
            int all = 0;
            for (int one = 0; one < travellers; one++) {
                all += noes[one];
            }
            return all;
        }

        int allDrawn() {
            int all = 0;
            for (int one = 0; one < travellers; one++) {
                all += Integer.bitCount(charts[one]);
            }
            return all;
        }
    }

    /** Ways over the cells; sets of cells are bits. A way has no cell of the set, but may begin on one. */
    private static final class Ways {
        private static final int NOT_LAST_COLUMN = 0x7777;

        private static int near(int cells) {
            int sideways = (cells & NOT_LAST_COLUMN) << 1 | cells >>> 1 & NOT_LAST_COLUMN;
            return (cells << 4 | cells >>> 4 | sideways) & ALL_CELLS;
        }

        /** The least number in a set that is not empty. */
        static int least(int set) {
            return Integer.bitCount((set & -set) - 1);
        }

        /** The first cell of the shortest way between two cells that are not the same; -1: none. */
        static int firstCell(int from, int to, int set) {
            int beside = near(1 << from);
            int reached = 1 << to & ~set;
            // All that is reached from the end after so many steps: where it first comes
            // beside the beginning, the shortest ways begin.
            for (int i = 0; i < CELLS; i++) {
                if ((reached & beside) != 0) {
                    return least(reached & beside);
                }
                int wider = reached | near(reached) & ~set;
                if (wider == reached) {
                    return -1;
                }
                reached = wider;
            }
            return -1;
        }

        static int length(int from, int to, int set) {
            int reached = 1 << from;
            for (int steps = 0; steps < CELLS; steps++) {
                if ((reached >> to & 1) != 0) {
                    return steps;
                }
                int wider = reached | near(reached) & ~set;
                if (wider == reached) {
                    return MISSING;
                }
                reached = wider;
            }
            return MISSING;
        }

        static int kthCell(int from, int to, int set, int k) {
            int cell = from;
            for (int i = 0; i <= k && i < CELLS; i++) {
                int next = cell == to ? -1 : firstCell(cell, to, set);
                if (next < 0) {
                    return MISSING;
                }
                cell = next;
            }
            return cell;
        }

        /** Whether there is a shortest way by the set, and it goes through none of the others. */
        static boolean avoids(int from, int to, int set, int others) {
            int cell = from;
            for (int i = 0; i < CELLS; i++) {
                if (cell == to) {
                    return true;
                }
                cell = firstCell(cell, to, set);
                if (cell < 0 || (others >> cell & 1) != 0) {
                    return false;
                }
            }
            return false;
        }

        /** All cells to which there is a way. */
        static int reach(int from, int set) {
            int reached = 1 << from;
            for (int i = 0; i < CELLS; i++) {
                reached |= near(reached) & ~set;
            }
            return reached;
        }
    }

    /** What opens or shuts which cell to whom when, as steps on a stack of truths, and how charts fade. */
    private static final class Nation {
        /** A step is one of these and, from the fifth bit on, what it goes with. */
        static final int NOT = 0, AND = 1, OR = 2, ADD = 3, LESS = 4, SAME = 5, MORE = 6;
        static final int STEP_BITS = 4, STEP_MASK = 15;
        /** What tests look at; eight, so that three bits are a place among them. */
        static final int FACTS = 8, FACT_BITS = 3, FACT_MASK = 7;

        final int fade;
        private final int[] steps;

        Nation(int[] steps, int fade) {
            this.steps = steps;
            this.fade = fade;
        }

        /** The n of all open that hold, less those of all shut. */
        int openLessShut(int[] facts) {
            int sum = 0;
            // The lowest bit is the latest truth. Within 4 brackets a text can't stack more than 11.
            int truths = 0;
            for (int i = 0; i < steps.length; i++) {
                int operand = steps[i] >> STEP_BITS;
                int fact = facts[operand & FACT_MASK];
                int number = operand >> FACT_BITS;
                switch (steps[i] & STEP_MASK) {
                    case NOT: truths ^= 1; break;
                    case AND: truths = truths >>> 1 & (truths | ~1); break;
                    case OR: truths = truths >>> 1 | truths & 1; break;
                    case ADD: sum += (truths & 1) * operand; truths = 0; break;
                    case LESS: truths = truths << 1 | (fact < number ? 1 : 0); break;
                    case SAME: truths = truths << 1 | (fact == number ? 1 : 0); break;
                    default: truths = truths << 1 | (fact > number ? 1 : 0); break;
                }
            }
            return sum;
        }
    }

    /** The text, and how it is read: each part answers whether it stands at the place; if not, the place is the fault. */
    private static final class Reader {
        static final int MOST_SIGNS = 100;
        private static final int MOST_CLAUSES = 10, MOST_WITHIN = 4, END = -1;
        private static final String LETTERS = "pkvcgh", RELATIONS = "<=>";

        int length;
        int place;
        private final int[] text = new int[MOST_SIGNS];
        /** No more than the text's signs: each step has one of its own. */
        private final int[] steps = new int[MOST_SIGNS];
        private int stepCount;
        private int number;
        private int fade;

        /** The caller has looked that there is room. */
        int append(int sign) {
            text[length] = sign;
            length++;
            return length;
        }

        boolean parseText() {
            place = 0;
            stepCount = 0;
            fade = 0;
            for (int clauses = 1; clauses <= MOST_CLAUSES; clauses++) {
                if (!parseClause()) {
                    return false;
                }
                if (place == length) {
                    return true;
                }
                if (clauses == MOST_CLAUSES || !takeSign(';')) {
                    return false;
                }
            }
            return false;
        }

        Nation newNation() {
            int[] own = new int[stepCount];
            System.arraycopy(steps, 0, own, 0, stepCount);
            return new Nation(own, fade);
        }

        private boolean parseClause() {
            if (sign() == 'f') {
                if (!takeWord("fade ") || !parseNumber()) {
                    return false;
                }
                fade = number;
                return true;
            }
            boolean opens = sign() == 'o';
            if (!takeWord(opens ? "open " : "shut ") || !parseNumber()) {
                return false;
            }
            // The tests have numbers of their own.
            int amount = opens ? number : -number;
            if (!takeSign(' ') || !parseEither(0)) {
                return false;
            }
            addStep(Nation.ADD, amount);
            return true;
        }

        /** Parts with | and & between, & before |; what stands to the left comes first. */
        private boolean parseEither(int within) {
            boolean either = false;
            boolean both = false;
            for (int i = 0; i < MOST_SIGNS; i++) {
                if (!parseSingle(within)) {
                    return false;
                }
                if (both) {
                    addStep(Nation.AND, 0);
                }
                both = takeSign('&');
                if (both) {
                    continue;
                }
                if (either) {
                    addStep(Nation.OR, 0);
                }
                either = takeSign('|');
                if (!either) {
                    return true;
                }
            }
            return false;
        }

        private boolean parseSingle(int within) {
            int sign = sign();
            if (sign != '!' && sign != '(') {
                return parseTest();
            }
            if (within >= MOST_WITHIN) {
                return false;
            }
            place++;
            if (sign == '(') {
                return parseEither(within + 1) && takeSign(')');
            }
            if (!parseSingle(within + 1)) {
                return false;
            }
            addStep(Nation.NOT, 0);
            return true;
        }

        private boolean parseTest() {
            int fact = indexOfSign(LETTERS);
            if (fact < 0) {
                return false;
            }
            place++;
            int relation = indexOfSign(RELATIONS);
            if (relation < 0) {
                return false;
            }
            place++;
            if (!parseNumber()) {
                return false;
            }
            addStep(Nation.LESS + relation, number << Nation.FACT_BITS | fact);
            return true;
        }

        /** A number has one or two digits. */
        private boolean parseNumber() {
            if (!isDigit(sign())) {
                return false;
            }
            number = sign() - '0';
            place++;
            if (isDigit(sign())) {
                number = 10 * number + sign() - '0';
                place++;
            }
            return true;
        }

        private static boolean isDigit(int sign) {
            return sign >= '0' && sign <= '9';
        }

        private int indexOfSign(String signs) {
            int sign = sign();
            for (int i = 0; i < signs.length(); i++) {
                if (signs.charAt(i) == sign) {
                    return i;
                }
            }
            return -1;
        }

        private boolean takeWord(String word) {
            for (int i = 0; i < word.length(); i++) {
                if (!takeSign(word.charAt(i))) {
                    return false;
                }
            }
            return true;
        }

        private boolean takeSign(char wanted) {
            if (sign() != wanted) {
                return false;
            }
            place++;
            return true;
        }

        private int sign() {
            return place < length ? text[place] : END;
        }

        private void addStep(int step, int operand) {
            if (stepCount < MOST_SIGNS) {
                steps[stepCount] = operand << Nation.STEP_BITS | step;
                stepCount++;
            }
        }
    }

    /** Rows of up to three numbers that are told by hand. */
    private static final class Rows {
        private static final int WIDTH = 3;

        int rows;
        private final int most;
        private final int[] numbers;

        Rows(int most) {
            this.most = most;
            numbers = new int[WIDTH * most];
        }

        boolean isFull() {
            return rows >= most;
        }

        int empty() {
            rows = 0;
            return 0;
        }

        /** The caller has looked that there is room. */
        int append(int first, int second, int third) {
            int place = WIDTH * rows;
            numbers[place] = first;
            numbers[place + 1] = second;
            numbers[place + 2] = third;
            rows++;
            return rows;
        }

        int first(int row) {
            return numbers[WIDTH * row];
        }

        int second(int row) {
            return numbers[WIDTH * row + 1];
        }

        int third(int row) {
            return numbers[WIDTH * row + 2];
        }

        /** The other has room for as many rows as this. */
        void copyFrom(Rows other) {
            rows = other.rows;
            System.arraycopy(other.numbers, 0, numbers, 0, WIDTH * most);
        }
    }

    /** All that is told by hand. */
    private static final class Hand {
        final Rows seen = new Rows(5);
        final Rows plan = new Rows(8);
        final Rows book = new Rows(8);

        Hand() {
        }

        void copyFrom(Hand other) {
            seen.copyFrom(other.seen);
            plan.copyFrom(other.plan);
            book.copyFrom(other.book);
        }
    }

    /** The acts' bodies, and which of them ran in the latest act. */
    private static final class Acts {
        static final int ACTS = 3;
        private static final int KNOCKS = 0, DRAWS = 1, TELLS = 2;
        private static final int MOST_KEPT = 20, MOST_DEEP = 20;
        /** For each act, kind by kind: the body of the kind, or of the next above that has one. */
        private static final int[] BODIES = {
            10, 10, 30, 10, 50, 30, 71,
            11, 20, 11, 11, 51, 11, 70,
            12, 12, 12, 40, 12, 60, 40,
        };

        int ran;
        private int number;
        private int kind;
        private int value;
        final int[] bodies = new int[MOST_KEPT];

        Acts() {
        }

        int kept() {
            return Math.min(ran, MOST_KEPT);
        }

        int begin(int ownNumber, int ownKind, int ownValue, int act, int x) {
            number = ownNumber;
            kind = ownKind;
            value = ownValue;
            return run(act, ownKind, x, 0);
        }

        /** Runs the body that a kind has for an act. */
        private int run(int act, int from, int x, int deep) {
            int entry = KINDS * act + from;
            if (deep > MOST_DEEP || entry < 0 || entry >= BODIES.length) {
                return 0;
            }
            int body = BODIES[entry];
            note(body);
            int next = deep + 1;
            switch (body) {
                case 10: return x + number;
                case 11: return run(KNOCKS, kind, x, next) - value;
                case 12: return run(DRAWS, kind, x, next) * 2;
                case 20: return run(DRAWS, TRAVELLER, x, next) ^ 6;
                case 30: return run(KNOCKS, TRAVELLER, x * 3, next);
                case 40: return run(TELLS, TRAVELLER, x, next) + run(DRAWS, kind, 1, next);
                case 50: return -run(KNOCKS, BEAUTY, x, next);
                case 51: return run(DRAWS, BEAUTY, x + 1, next);
                case 60: return run(TELLS, SAILOR, x - number, next);
                case 70: return run(DRAWS, CHILD, x, next) + run(KNOCKS, CHILD, 2, next);
                case 71: return run(KNOCKS, CHILD, x, next) ^ value;
                default: return 0;
            }
        }

        private void note(int body) {
            if (ran < MOST_KEPT) {
                bodies[ran] = body;
            }
            ran++;
        }
    }

    /** A row of items of one sort, or nothing. */
    private static final class Tape {
        static final int SORTS = 5, MOST_ITEMS = 60;

        /** -1: it holds nothing. */
        int sort = -1;
        int length;
        final long[] items = new long[MOST_ITEMS];

        Tape() {
        }

        boolean isThere() {
            return sort >= 0;
        }

        /** The caller has looked that n is 0 .. MOST_ITEMS. */
        void become(int newSort, int n) {
            sort = newSort;
            length = n;
            for (int i = 0; i < MOST_ITEMS; i++) {
                items[i] = 0;
            }
        }

        /** The lowest bits of v, as many as an item has. */
        long cut(long v) {
            switch (sort) {
                case 0: return (byte) v;
                case 1: return (short) v;
                case 2: return (int) v;
                case 3: return v;
                default: return v != 0 ? 1 : 0;
            }
        }

        /** Whether n items stand from a place on; written so that nothing wraps. */
        boolean holds(int place, int n) {
            return n >= 0 && place >= 0 && n <= length && place <= length - n;
        }
    }
}
