public final class StarLess {
    public static final int UNKNOWN = -1, OUTSIDE = -2, STATE = -3, FULL = -4, NONE = -9;
    public static final long LOST = Long.MIN_VALUE;

    private static final int NULL = 1, CAST = 2, INDEX = 3, SIZE = 4;
    private static final int GUEST = 0, CRITIC = 1, POET = 2;
    private static final int LANES = 3, MOST_CELLS = 60, SHEETS = 4;
    private static final int MOST_DOINGS = 4, LEAST_GUESTS = 2, MOST_GUESTS = 6;
    private static final int MOST_STARS = 5, MOST_STRICT = 9, DIGITS = 10;
    private static final int PURSE = 12, MOST_PAIRS = 20, MOST_READINGS = 8;

    private final House house;
    private final Sheets sheets;
    private final Text text;
    private final Outcome outcome;
    private final Plan plan;
    private final Log log;
    private int traced;
    private int latestFault;

    public StarLess() {
        house = new House();
        sheets = new Sheets();
        text = new Text();
        outcome = new Outcome();
        plan = new Plan();
        log = new Log();
    }

    // ---- 1 the hotel

    public int hotel(int sheet, int lane, int i, int n) {
        latestFault = 0;
        if (!sheets.isSheet(sheet)) return UNKNOWN;
        if (!isLane(lane)) return OUTSIDE;
        int wrongRow = sheets.faultAsRow(sheet, lane);
        if (wrongRow != 0) return faulty(wrongRow);
        if (n < 0) return faulty(SIZE);
        if (!sheets.spans(sheet, i, n)) return faulty(INDEX);
        int[] row = sheets.rows[sheet];
        if (!text.isOne(row, i, n)) return -100 - text.place;
        house.open(row, i, text.doings, text.guests);
        log.size = 0;
        return house.guests;
    }

    public int ofGuest(int g, int what) {
        if (!house.isGuest(g)) return UNKNOWN;
        switch (what) {
            case 0: return house.kind[g];
            case 1: return house.taste[g];
            case 2: return house.love[g];
            default: return OUTSIDE;
        }
    }

    public int ofDoing(int d, int what) {
        if (!house.isDoing(d)) return UNKNOWN;
        switch (what) {
            case 0: return house.charm[d];
            case 1: return house.cost[d];
            case 2: return house.wonBy(d);
            default: return OUTSIDE;
        }
    }

    public int strict(int v) {
        if (v < 1 || v > MOST_STRICT) return OUTSIDE;
        if (!house.isOpen()) return STATE;
        int was = house.strict;
        house.strict = v;
        return was;
    }

    public int stars(int v) {
        if (!isStars(v)) return OUTSIDE;
        if (!house.isOpen()) return STATE;
        int was = house.stars;
        house.stars = v;
        return was;
    }

    public int pleased(int g, int d) {
        if (!house.isGuest(g) || !house.isDoing(d)) return UNKNOWN;
        return house.pleasure(g, d);
    }

    // ---- 2 seasons

    public int season(int g, int sheet, int lane, int i, int n, int what) {
        latestFault = 0;
        if (!house.isGuest(g) || !sheets.isSheet(sheet)) return UNKNOWN;
        if (!isLane(lane) || !isPairs(n) || what < 0 || what > 4) return OUTSIDE;
        int refused = refusedPairs(sheet, lane, i, n);
        if (refused != 0) return refused;
        outcome.live(house, sheets.rows[sheet], i, n, g);
        if (what == 1) return outcome.wrong;
        if (outcome.wrong != NONE) return -100 - outcome.wrong;
        switch (what) {
            case 0: return outcome.stars;
            case 2: return outcome.empty;
            case 3: return outcome.left;
            default: return outcome.pleasure;
        }
    }

    public int may(int sheet, int lane, int i, int n, int v) {
        latestFault = 0;
        int refused = refusedSeason(sheet, lane, i, n, v);
        if (refused != 0) return refused;
        int[] row = sheets.rows[sheet];
        int set = 0;
        for (int g = 0; g < house.guests; g++) {
            outcome.live(house, row, i, n, g);
            if (outcome.wrong != NONE) return -100 - outcome.wrong;
            if (outcome.stars == v) set |= 1 << g;
        }
        return set;
    }

    // ---- 3 what to do

    public int ask(int set) {
        if (!house.isOpen()) return STATE;
        if (set < 0 || set >= 1 << house.guests) return OUTSIDE;
        int best = NONE;
        int least = PURSE + 1;
        for (int d = 0; d < house.doings; d++) {
            int shown = set & house.wonBy(d);
            if (shown != 0 && house.cost[d] < least) {
                least = house.cost[d];
                best = 10 * firstOf(shown) + d;
            }
        }
        return best;
    }

    public int dull(int g) {
        if (!house.isGuest(g)) return UNKNOWN;
        int best = NONE;
        int most = -1;
        for (int d = 0; d < house.doings; d++) {
            int much = house.pleasure(g, d);
            if (much < house.strict && much > most) {
                most = much;
                best = d;
            }
        }
        return best;
    }

    public int fewest(int g) {
        if (g < -1) return UNKNOWN;
        if (!house.isOpen()) return STATE;
        if (g >= house.guests || !plan.isMade(house)) return NONE;
        return g < 0 ? plan.won : plan.doing[g];
    }

    // ---- 4 stars that were lost

    public int reading(int g, int d, boolean lost) {
        if (!house.isGuest(g) || !house.isDoing(d)) return UNKNOWN;
        if (log.size >= MOST_READINGS) return FULL;
        return log.add(g, d, lost);
    }

    public int back(int k) {
        if (k < 0 || k > log.size) return OUTSIDE;
        log.size -= k;
        return log.size;
    }

    public int limits() {
        if (!house.isOpen()) return STATE;
        int was = house.strict;
        int set = 0;
        for (int v = 1; v <= MOST_STRICT; v++) {
            house.strict = v;
            if (log.isSo(house)) set |= 1 << v;
        }
        house.strict = was;
        return set;
    }

    public int kinds(int g) {
        if (!house.isGuest(g)) return UNKNOWN;
        return fitting(house.kind, g, POET + 1);
    }

    public int tastes(int g) {
        if (!house.isGuest(g)) return UNKNOWN;
        return fitting(house.taste, g, DIGITS);
    }

    public int charms(int d) {
        if (!house.isDoing(d)) return UNKNOWN;
        return fitting(house.charm, d, DIGITS);
    }

    public long odds(int sheet, int lane, int i, int n, int v, int which) {
        latestFault = 0;
        // 'which' is looked at behind all that may() refuses, as the document's line tells them
        if (refusedSeason(sheet, lane, i, n, v) != 0) return LOST;
        if (which < 0 || which > 1) return LOST;
        int[] row = sheets.rows[sheet];
        int upper = 0;
        for (int g = 0; g < house.guests; g++) {
            outcome.live(house, row, i, n, g);
            if (outcome.wrong != NONE) return LOST;
            if (outcome.stars >= v) upper++;
        }
        int common = commonDivisor(upper, house.guests);
        if (common == 0) return LOST;
        return which == 0 ? upper / common : house.guests / common;
    }

    // ---- 5 sheets, parts

    public int sheet(int k, int lane, int n) {
        latestFault = 0;
        if (!sheets.isSheet(k)) return UNKNOWN;
        if (!isLane(lane) || n > MOST_CELLS) return OUTSIDE;
        if (n < 0) return faulty(SIZE);
        sheets.renew(k, lane, n);
        return 1;
    }

    public int lose(int k) {
        if (!sheets.isSheet(k)) return UNKNOWN;
        int had = sheets.there[k] ? 1 : 0;
        sheets.there[k] = false;
        return had;
    }

    public int put(int k, int i, int v) {
        latestFault = 0;
        if (!sheets.isSheet(k)) return UNKNOWN;
        if (!sheets.there[k]) return faulty(NULL);
        if (!sheets.isCell(k, i)) return faulty(INDEX);
        sheets.rows[k][i] = cut(v, sheets.lanes[k]);
        return 1;
    }

    public long cell(int k, int i, int lane) {
        latestFault = 0;
        if (!sheets.isSheet(k) || !isLane(lane)) return LOST;
        latestFault = sheets.faultAsRow(k, lane);
        if (latestFault != 0) return LOST;
        if (!sheets.isCell(k, i)) {
            latestFault = INDEX;
            return LOST;
        }
        return sheets.rows[k][i];
    }

    public int copy(int k, int i, int other, int j, int n) {
        latestFault = 0;
        if (!sheets.isSheet(k) || !sheets.isSheet(other)) return UNKNOWN;
        if (!sheets.there[k] || !sheets.there[other]) return faulty(NULL);
        if (sheets.lanes[k] != sheets.lanes[other]) return faulty(CAST);
        if (!sheets.spans(k, i, n) || !sheets.spans(other, j, n)) return faulty(INDEX);
        System.arraycopy(sheets.rows[k], i, sheets.rows[other], j, n);
        return n;
    }

    public int tell(int g) {
        if (!house.isGuest(g)) return UNKNOWN;
        switch (house.kind[g]) {
            case POET: return tellAsPoet(g);
            case CRITIC: return tellAsCritic(g);
            default: return tellAsGuest(g);
        }
    }

    public int greet(int g) {
        if (!house.isGuest(g)) return UNKNOWN;
        if (house.kind[g] == POET) {
            leave(5);
            return 50;
        }
        leave(4);
        return g;
    }

    public int as(int g, int kind) {
        latestFault = 0;
        if (!house.isGuest(g)) return UNKNOWN;
        if (kind < GUEST || kind > POET) return OUTSIDE;
        // each kind is also all the kinds below it
        if (house.kind[g] < kind) return faulty(CAST);
        return 1;
    }

    public int trace() {
        return traced;
    }

    public int fault() {
        return latestFault;
    }

    public int many(int what) {
        switch (what) {
            case 0: return house.guests;
            case 1: return house.doings;
            case 2: return house.stars;
            case 3: return house.strict;
            case 4: return log.size;
            default: return OUTSIDE;
        }
    }

    // ---- what several calls share

    private static boolean isLane(int lane) {
        return lane >= 0 && lane < LANES;
    }

    private static boolean isPairs(int n) {
        return n >= 0 && n <= MOST_PAIRS;
    }

    private static boolean isStars(int v) {
        return v >= 0 && v <= MOST_STARS;
    }

    private static int firstOf(int set) {
        int first = 0;
        while (first < MOST_GUESTS && (set >> first & 1) == 0) first++;
        return first;
    }

    private static int cut(int v, int lane) {
        switch (lane) {
            case 0: return (byte) v;
            case 1: return (short) v;
            default: return v;
        }
    }

    private static int commonDivisor(int a, int b) {
        int large = a;
        int small = b;
        for (int step = 0; step < 64 && small != 0; step++) {
            int rest = large % small;
            large = small;
            small = rest;
        }
        return large;
    }

    private int faulty(int number) {
        latestFault = number;
        return -10 - number;
    }

    /** What refuses a call of may() or odds(), in the order told; 0: nothing does. */
    private int refusedSeason(int sheet, int lane, int i, int n, int v) {
        if (!sheets.isSheet(sheet)) return UNKNOWN;
        if (!isLane(lane) || !isPairs(n) || !isStars(v)) return OUTSIDE;
        if (!house.isOpen()) return STATE;
        return refusedPairs(sheet, lane, i, n);
    }

    /** What refuses a row of pairs; 0: nothing does. Every pair is looked at, a FIRST WRONG or not. */
    private int refusedPairs(int sheet, int lane, int i, int n) {
        int wrongRow = sheets.faultAsRow(sheet, lane);
        if (wrongRow != 0) return faulty(wrongRow);
        if (!sheets.spans(sheet, i, 2 * n)) return faulty(INDEX);
        int[] row = sheets.rows[sheet];
        for (int p = 0; p < n; p++) {
            if (!house.isGuest(row[i + 2 * p]) || !house.isDoing(row[i + 2 * p + 1])) return UNKNOWN;
        }
        return 0;
    }

    /** The numbers below 'end' that may stand at one place of a row, as a set, by all READINGS. */
    private int fitting(int[] row, int place, int end) {
        int was = row[place];
        int set = 0;
        for (int v = 0; v < end; v++) {
            row[place] = v;
            if (log.isSo(house)) set |= 1 << v;
        }
        row[place] = was;
        return set;
    }

    private void leave(int number) {
        traced = 31 * traced + number;
    }

    private int tellAsGuest(int g) {
        leave(1);
        return house.taste[g];
    }

    private int tellAsCritic(int g) {
        leave(2);
        return tellAsGuest(g) + 100;
    }

    private int tellAsPoet(int g) {
        leave(3);
        int asCritic = tellAsCritic(g);
        return asCritic + tellAsGuest(g);
    }

    /** The SHEETS: rows are made once and used again, as a run may ask for very many. */
    private static final class Sheets {
        private final int[][] rows = new int[SHEETS][MOST_CELLS];
        private final boolean[] there = new boolean[SHEETS];
        private final int[] lanes = new int[SHEETS];
        private final int[] lengths = new int[SHEETS];

        private boolean isSheet(int k) {
            return k >= 0 && k < SHEETS;
        }

        private boolean isCell(int k, int i) {
            return i >= 0 && i < lengths[k];
        }

        private boolean spans(int k, int i, int n) {
            return i >= 0 && i <= lengths[k] && n >= 0 && n <= lengths[k] - i;
        }

        private int faultAsRow(int k, int lane) {
            if (!there[k]) return NULL;
            return lanes[k] == lane ? 0 : CAST;
        }

        private void renew(int k, int lane, int n) {
            there[k] = true;
            lanes[k] = lane;
            lengths[k] = n;
            for (int i = 0; i < n; i++) rows[k][i] = 0;
        }
    }

    /** Walks along codes as far as a TEXT goes on with them. */
    private static final class Text {
        private int[] row = new int[0];
        private int from;
        private int length;
        private int place;
        private int doings;
        private int guests;

        private boolean isOne(int[] codes, int first, int n) {
            row = codes;
            from = first;
            length = n;
            place = 0;
            boolean headed = next('z', 'z') && next('0', '0' + MOST_STARS) && next('1', '9');
            return headed && areDoings() && areGuests() && place == length;
        }

        private boolean areDoings() {
            for (doings = 0; doings < MOST_DOINGS && next('/', '/'); doings++) {
                if (!next('0', '9') || !next('0', '3')) return false;
            }
            return doings > 0;
        }

        private boolean areGuests() {
            for (guests = 0; guests < MOST_GUESTS && next(';', ';'); guests++) {
                if (!isLetter() || !next('0', '9') || !next('0', '0' + doings - 1)) return false;
            }
            return guests >= LEAST_GUESTS;
        }

        private boolean isLetter() {
            return next('g', 'g') || next('c', 'c') || next('p', 'p');
        }

        private boolean next(int low, int high) {
            if (place >= length) return false;
            int code = row[from + place];
            if (code < low || code > high) return false;
            place++;
            return true;
        }
    }

    /** The HOTEL; there is none as long as it has no GUESTS. */
    private static final class House {
        private int stars;
        private int strict;
        private int doings;
        private int guests;
        private final int[] charm = new int[MOST_DOINGS];
        private final int[] cost = new int[MOST_DOINGS];
        private final int[] kind = new int[MOST_GUESTS];
        private final int[] taste = new int[MOST_GUESTS];
        private final int[] love = new int[MOST_GUESTS];

        private boolean isOpen() {
            return guests > 0;
        }

        private boolean isGuest(int g) {
            return g >= 0 && g < guests;
        }

        private boolean isDoing(int d) {
            return d >= 0 && d < doings;
        }

        /** Takes a TEXT that has been walked along, so that every place holds what it must. */
        private void open(int[] row, int from, int doingsTold, int guestsTold) {
            stars = row[from + 1] - '0';
            strict = row[from + 2] - '0';
            doings = doingsTold;
            guests = guestsTold;
            int at = from + 3;
            for (int d = 0; d < doings; d++) {
                charm[d] = row[at + 1] - '0';
                cost[d] = row[at + 2] - '0';
                at += 3;
            }
            for (int g = 0; g < guests; g++) {
                kind[g] = kindOf(row[at + 1]);
                taste[g] = row[at + 2] - '0';
                love[g] = row[at + 3] - '0';
                at += 4;
            }
        }

        private static int kindOf(int letter) {
            switch (letter) {
                case 'p': return POET;
                case 'c': return CRITIC;
                default: return GUEST;
            }
        }

        private int pleasure(int g, int d) {
            boolean loved = love[g] == d;
            int plain = charm[d] + taste[g] + (loved ? 3 : 0);
            switch (kind[g]) {
                case POET: return loved ? plain / 2 + 2 : 0;
                case CRITIC: return plain / 2;
                default: return plain;
            }
        }

        private boolean isWon(int g, int d) {
            return pleasure(g, d) >= strict;
        }

        private int wonBy(int d) {
            int set = 0;
            for (int g = 0; g < guests; g++) {
                if (isWon(g, d)) set |= 1 << g;
            }
            return set;
        }
    }

    /** What a SEASON comes to, up to its end or its FIRST WRONG. */
    private static final class Outcome {
        private int stars;
        private int wrong;
        private int empty;
        private int left;
        private int pleasure;

        private void live(House house, int[] row, int from, int pairs, int inspector) {
            stars = house.stars;
            wrong = NONE;
            empty = NONE;
            left = PURSE;
            pleasure = 0;
            for (int p = 0; p < pairs && wrong == NONE; p++) {
                int g = row[from + 2 * p];
                int d = row[from + 2 * p + 1];
                if (house.cost[d] > left) wrong = p;
                else pay(house, p, g, d, g == inspector);
            }
        }

        private void pay(House house, int p, int g, int d, boolean inspected) {
            left -= house.cost[d];
            pleasure += house.pleasure(g, d);
            if (inspected && stars > 0 && house.isWon(g, d)) {
                stars--;
                if (stars == 0) empty = p;
            }
        }
    }

    /** FEWEST: from the last GUEST back to the first, the best of each sum that may be left for them and all behind. */
    private static final class Plan {
        // one more who is won outweighs all pleasure that six GUESTS can have (126)
        private static final int ONE_WON = 1000;
        // more than any row of doings weighs
        private static final int NEVER = 1000000;

        private final int[][] least = new int[MOST_GUESTS + 1][PURSE + 1];
        private final int[] doing = new int[MOST_GUESTS];
        private int won;

        private boolean isMade(House house) {
            for (int left = 0; left <= PURSE; left++) least[house.guests][left] = 0;
            for (int g = house.guests - 1; g >= 0; g--) {
                for (int left = 0; left <= PURSE; left++) least[g][left] = leastOf(house, g, left);
            }
            if (least[0][PURSE] == NEVER) return false;
            choose(house);
            return true;
        }

        private int leastOf(House house, int g, int left) {
            int best = NEVER;
            for (int d = 0; d < house.doings; d++) best = Math.min(best, weight(house, g, d, left));
            return best;
        }

        private int weight(House house, int g, int d, int left) {
            int rest = left - house.cost[d];
            if (rest < 0 || least[g + 1][rest] == NEVER) return NEVER;
            int own = house.isWon(g, d) ? ONE_WON : 0;
            return own - house.pleasure(g, d) + least[g + 1][rest];
        }

        private void choose(House house) {
            int left = PURSE;
            won = 0;
            for (int g = 0; g < house.guests; g++) {
                int d = firstBest(house, g, left);
                doing[g] = d;
                left -= house.cost[d];
                if (house.isWon(g, d)) won++;
            }
        }

        private int firstBest(House house, int g, int left) {
            for (int d = 0; d < house.doings; d++) {
                if (weight(house, g, d, left) == least[g][left]) return d;
            }
            return 0;
        }
    }

    /** The READINGS. */
    private static final class Log {
        private final int[] guest = new int[MOST_READINGS];
        private final int[] doing = new int[MOST_READINGS];
        private final boolean[] lost = new boolean[MOST_READINGS];
        private int size;

        private int add(int g, int d, boolean wasLost) {
            guest[size] = g;
            doing[size] = d;
            lost[size] = wasLost;
            size++;
            return size - 1;
        }

        private boolean isSo(House house) {
            for (int r = 0; r < size; r++) {
                if (house.isWon(guest[r], doing[r]) != lost[r]) return false;
            }
            return true;
        }
    }
}
