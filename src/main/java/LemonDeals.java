/** Lemons dealt out to the houses of a street by temper. README.md says how it is used. */
public final class LemonDeals {
    public static final int UNKNOWN = -1, OUTSIDE = -2, STATE = -3, FULL = -4, NONE = -9;
    public static final long LOST = Long.MIN_VALUE;

    private static final int NO_FAULT = 0, NULL = 1, CAST = 2, INDEX = 3, SIZE = 4;
    private static final int FAULT_ANSWER = -10, PLACE_ANSWER = -100;
    private static final int PLAIN = 0, TART = 1, BITTER = 2, KINDS = 3;
    private static final int BYTES = 0, SHORTS = 1, LANES = 3;
    private static final int MOST_HOUSES = 8, MOST_TEMPER = 9, MOST_CRATE = 99, CRATES = 100;
    private static final int MOST_WEEKS = 60, MOST_CALM_WEEKS = 12, PIPS_A_TREE = 4;
    private static final int MOST_PAIRS = 20, MOST_WEEKS_TOLD = 9;
    private static final int WEEKS_TOLD = 0, GIFT_TOLD = 1, CRATE_TOLD = 2;
    private static final int ASKS_WRONG = 1, ASKS_HOUSE = 10;
    private static final int MOST_READINGS = 8, SHEETS = 4, MOST_CELLS = 60, NOTHING = -1;
    private static final int TEXT_HEAD = 3, TEXT_HOUSE = 4;
    private static final int TEXT_MOST = TEXT_HEAD + TEXT_HOUSE * MOST_HOUSES;

    private final Street now = new Street();
    // What is only thought of (a season, another crate, another temper) is tried here.
    private final Street trial = new Street();
    private final Sheet[] sheets = new Sheet[SHEETS];
    private final int[] readHouse = new int[MOST_READINGS];
    private final int[] readDealt = new int[MOST_READINGS];
    private int readings = 0;
    private int traced = 0;
    private int lastFault = NO_FAULT;

    public LemonDeals() {
        for (int k = 0; k < SHEETS; k++) {
            sheets[k] = new Sheet();
        }
    }

    // ---- 1 the street

    public int street(int sheet, int lane, int i, int n) {
        lastFault = NO_FAULT;
        if (!isSheet(sheet)) {
            return UNKNOWN;
        }
        if (!isLane(lane)) {
            return OUTSIDE;
        }
        Sheet row = sheets[sheet];
        int wrong = row.faultAs(lane);
        if (wrong == NO_FAULT && n < 0) {
            wrong = SIZE;
        }
        if (wrong == NO_FAULT && row.lacks(i, n)) {
            wrong = INDEX;
        }
        if (wrong != NO_FAULT) {
            return fails(wrong);
        }
        int place = firstTextFault(row.cells, i, n);
        if (place != NONE) {
            return PLACE_ANSWER - place;
        }
        now.beginByText(row.cells, i, n);
        readings = 0;
        return now.houses;
    }

    public int ofHouse(int k, int what) {
        if (!isHouse(k)) {
            return UNKNOWN;
        }
        switch (what) {
            case 0:
                return now.kind[k];
            case 1:
                return now.temper[k];
            case 2:
                return now.stock[k];
            case 3:
                return now.pips[k];
            case 4:
                return now.treesOf(k);
            case 5:
                return now.sourOf(k);
            case 6:
                return now.dealtTo(k, now.crate);
            default:
                return OUTSIDE;
        }
    }

    public int anger(int k, int v) {
        if (!isHouse(k)) {
            return UNKNOWN;
        }
        if (!isTemper(v)) {
            return OUTSIDE;
        }
        int was = now.temper[k];
        now.temper[k] = v;
        return was;
    }

    public int crate(int v) {
        if (!hasStreet()) {
            return STATE;
        }
        if (!isCrate(v)) {
            return OUTSIDE;
        }
        int was = now.crate;
        now.crate = v;
        return was;
    }

    public int deal(int k, int crate) {
        if (!isHouse(k)) {
            return UNKNOWN;
        }
        if (!isCrate(crate)) {
            return OUTSIDE;
        }
        return now.dealtTo(k, crate);
    }

    // ---- 2 weeks

    public int weeks(int n) {
        if (n < 1 || n > MOST_WEEKS) {
            return OUTSIDE;
        }
        if (!hasStreet()) {
            return STATE;
        }
        now.passWeeks(n);
        return now.withoutStock();
    }

    public int gift(int k) {
        if (!isHouse(k)) {
            return UNKNOWN;
        }
        if (!now.giveOneFrom(k)) {
            return STATE;
        }
        return now.stock[k];
    }

    public int season(int sheet, int lane, int i, int n, int what) {
        lastFault = NO_FAULT;
        if (!isSheet(sheet)) {
            return UNKNOWN;
        }
        if (!isLane(lane) || n < 0 || n > MOST_PAIRS || !isAskedOfSeason(what)) {
            return OUTSIDE;
        }
        if (!hasStreet()) {
            return STATE;
        }
        Sheet row = sheets[sheet];
        int wrong = row.faultAs(lane);
        if (wrong == NO_FAULT && row.lacks(i, 2 * n)) {
            wrong = INDEX;
        }
        if (wrong != NO_FAULT) {
            return fails(wrong);
        }
        int refusal = refusalOfPairs(row.cells, i, n);
        if (refusal != 0) {
            return refusal;
        }
        trial.becomeLike(now);
        int firstWrong = actPairs(row.cells, i, n);
        if (what == ASKS_WRONG) {
            return firstWrong;
        }
        return firstWrong == NONE ? answerOfSeason(what) : PLACE_ANSWER - firstWrong;
    }

    // ---- 3 how it would be dealt

    public int calm(int n, int v) {
        if (!hasStreet()) {
            return STATE;
        }
        if (n < 0 || n > MOST_CALM_WEEKS || !isTemper(v)) {
            return OUTSIDE;
        }
        for (int lemons = 0; lemons <= MOST_CRATE; lemons++) {
            trial.becomeLike(now);
            trial.crate = lemons;
            trial.passWeeks(n);
            if (trial.worstTemper() <= v) {
                return lemons;
            }
        }
        return NONE;
    }

    public int wonder(int what) {
        if (!hasStreet()) {
            return STATE;
        }
        if (what < 0 || what > 1) {
            return OUTSIDE;
        }
        trial.becomeLike(now);
        for (int lemons = now.crate; lemons < MOST_CRATE; lemons++) {
            int loser = loserByOneMore(lemons);
            if (loser != NONE) {
                return what == 0 ? lemons : loser;
            }
        }
        return NONE;
    }

    public int otherwise(int k) {
        if (!isHouse(k)) {
            return UNKNOWN;
        }
        now.dealOneByOne(now.crate);
        return now.dealt[k];
    }

    public int halves(int what) {
        if (!hasStreet()) {
            return STATE;
        }
        if (what < 0 || what > 1) {
            return OUTSIDE;
        }
        int best = 1;
        int leastApart = apartBy(best);
        // House 0 is in each first set, so these are the odd numbers, the least ahead.
        for (int set = 3; set < 1 << now.houses; set += 2) {
            int apart = apartBy(set);
            if (apart < leastApart) {
                best = set;
                leastApart = apart;
            }
        }
        return what == 0 ? best : leastApart;
    }

    // ---- 4 what was dealt

    public int reading(int k, int v) {
        if (!isHouse(k)) {
            return UNKNOWN;
        }
        if (!isCrate(v)) {
            return OUTSIDE;
        }
        if (readings >= MOST_READINGS) {
            return FULL;
        }
        readHouse[readings] = k;
        readDealt[readings] = v;
        readings++;
        return readings - 1;
    }

    public int back(int k) {
        if (k < 0 || k > readings) {
            return OUTSIDE;
        }
        readings -= k;
        return readings;
    }

    public int tempers(int k) {
        if (!isHouse(k)) {
            return UNKNOWN;
        }
        trial.becomeLike(now);
        int set = 0;
        for (int t = 0; t <= MOST_TEMPER; t++) {
            trial.temper[k] = t;
            if (readingsHoldInTrial()) {
                set |= 1 << t;
            }
        }
        return set;
    }

    public int kinds(int k) {
        if (!isHouse(k)) {
            return UNKNOWN;
        }
        trial.becomeLike(now);
        int set = 0;
        for (int kind = 0; kind < KINDS; kind++) {
            trial.kind[k] = kind;
            if (readingsHoldInTrial()) {
                set |= 1 << kind;
            }
        }
        return set;
    }

    public int crates(int what) {
        if (!hasStreet()) {
            return STATE;
        }
        if (what < 0 || what > 2) {
            return OUTSIDE;
        }
        trial.becomeLike(now);
        int found = 0;
        int least = NONE;
        int greatest = NONE;
        for (int lemons = 0; lemons <= MOST_CRATE; lemons++) {
            trial.crate = lemons;
            if (readingsHoldInTrial()) {
                least = found == 0 ? lemons : least;
                greatest = lemons;
                found++;
            }
        }
        if (what == 0) {
            return found;
        }
        return what == 1 ? least : greatest;
    }

    public long odds(int k, int v, int which) {
        if (!isHouse(k) || !isCrate(v) || which < 0 || which > 1) {
            return LOST;
        }
        int upper = 0;
        for (int lemons = 0; lemons <= MOST_CRATE; lemons++) {
            if (now.dealtTo(k, lemons) >= v) {
                upper++;
            }
        }
        int divisor = CRATES;
        while (divisor > 1 && (upper % divisor != 0 || CRATES % divisor != 0)) {
            divisor--;
        }
        return which == 0 ? upper / divisor : CRATES / divisor;
    }

    // ---- 5 sheets, parts

    public int sheet(int k, int lane, int n) {
        lastFault = NO_FAULT;
        if (!isSheet(k)) {
            return UNKNOWN;
        }
        if (!isLane(lane) || n > MOST_CELLS) {
            return OUTSIDE;
        }
        if (n < 0) {
            return fails(SIZE);
        }
        sheets[k].begin(lane, n);
        return 1;
    }

    public int lose(int k) {
        if (!isSheet(k)) {
            return UNKNOWN;
        }
        boolean had = sheets[k].isThere();
        sheets[k].length = NOTHING;
        return had ? 1 : 0;
    }

    public int put(int k, int i, int v) {
        lastFault = NO_FAULT;
        if (!isSheet(k)) {
            return UNKNOWN;
        }
        Sheet row = sheets[k];
        if (!row.isThere()) {
            return fails(NULL);
        }
        if (!row.hasCell(i)) {
            return fails(INDEX);
        }
        row.cells[i] = row.cutToLane(v);
        return 1;
    }

    public long cell(int k, int i, int lane) {
        lastFault = NO_FAULT;
        if (!isSheet(k) || !isLane(lane)) {
            return LOST;
        }
        Sheet row = sheets[k];
        int wrong = row.faultAs(lane);
        if (wrong == NO_FAULT && !row.hasCell(i)) {
            wrong = INDEX;
        }
        if (wrong != NO_FAULT) {
            lastFault = wrong;
            return LOST;
        }
        return row.cells[i];
    }

    public int copy(int k, int i, int other, int j, int n) {
        lastFault = NO_FAULT;
        if (!isSheet(k) || !isSheet(other)) {
            return UNKNOWN;
        }
        Sheet from = sheets[k];
        Sheet to = sheets[other];
        if (!from.isThere() || !to.isThere()) {
            return fails(NULL);
        }
        if (from.lane != to.lane) {
            return fails(CAST);
        }
        if (from.lacks(i, n) || to.lacks(j, n)) {
            return fails(INDEX);
        }
        System.arraycopy(from.cells, i, to.cells, j, n);
        return n;
    }

    public int tell(int k) {
        if (!isHouse(k)) {
            return UNKNOWN;
        }
        switch (now.kind[k]) {
            case TART:
                return tellAsTart(k);
            case BITTER:
                return tellAsBitter(k);
            default:
                return tellAsPlain(k);
        }
    }

    public int knock(int k) {
        if (!isHouse(k)) {
            return UNKNOWN;
        }
        boolean hasItsOwn = now.kind[k] == BITTER;
        leaveInTrace(hasItsOwn ? 5 : 4);
        return hasItsOwn ? 30 : k;
    }

    public int as(int k, int kind) {
        lastFault = NO_FAULT;
        if (!isHouse(k)) {
            return UNKNOWN;
        }
        if (kind < 0 || kind >= KINDS) {
            return OUTSIDE;
        }
        // Each kind is one of all the kinds numbered below it.
        return now.kind[k] >= kind ? 1 : fails(CAST);
    }

    public int trace() {
        return traced;
    }

    public int fault() {
        return lastFault;
    }

    public int many(int what) {
        switch (what) {
            case 0:
                return now.houses;
            case 1:
                return now.crate;
            case 2:
                return now.week;
            case 3:
                return now.withoutStock();
            case 4:
                return readings;
            default:
                return OUTSIDE;
        }
    }

    // ---- what a number may be

    private boolean hasStreet() {
        return now.houses > 0;
    }

    private boolean isHouse(int k) {
        return k >= 0 && k < now.houses;
    }

    private static boolean isSheet(int k) {
        return k >= 0 && k < SHEETS;
    }

    private static boolean isLane(int lane) {
        return lane >= 0 && lane < LANES;
    }

    private static boolean isTemper(int v) {
        return v >= 0 && v <= MOST_TEMPER;
    }

    private static boolean isCrate(int v) {
        return v >= 0 && v <= MOST_CRATE;
    }

    private static boolean isAskedOfSeason(int what) {
        return (what >= 0 && what <= 4)
            || (what >= ASKS_HOUSE && what < ASKS_HOUSE + MOST_HOUSES);
    }

    private int fails(int wrong) {
        lastFault = wrong;
        return FAULT_ANSWER - wrong;
    }

    // ---- texts

    private static int firstTextFault(int[] codes, int from, int n) {
        for (int place = 0; place < n; place++) {
            if (!goesOn(place, codes[from + place])) {
                return place;
            }
        }
        boolean isWhole = n > TEXT_HEAD && (n - TEXT_HEAD) % TEXT_HOUSE == 0;
        return isWhole ? NONE : n;
    }

    private static boolean goesOn(int place, int code) {
        if (place >= TEXT_MOST) {
            return false;
        }
        if (place < TEXT_HEAD) {
            return place == 0 ? code == 'l' : isDigit(code);
        }
        switch ((place - TEXT_HEAD) % TEXT_HOUSE) {
            case 0:
                return code == ';';
            case 1:
                return kindByLetter(code) != NONE;
            default:
                return isDigit(code);
        }
    }

    private static boolean isDigit(int code) {
        return code >= '0' && code <= '9';
    }

    private static int kindByLetter(int code) {
        switch (code) {
            case 'p':
                return PLAIN;
            case 't':
                return TART;
            case 'b':
                return BITTER;
            default:
                return NONE;
        }
    }

    // ---- seasons, tried on the trial street

    private int refusalOfPairs(int[] cells, int from, int pairs) {
        for (int pair = 0; pair < pairs; pair++) {
            int refusal = refusalOfPair(cells[from + 2 * pair], cells[from + 2 * pair + 1]);
            if (refusal != 0) {
                return refusal;
            }
        }
        return 0;
    }

    private int refusalOfPair(int first, int second) {
        switch (second) {
            case WEEKS_TOLD:
                return first >= 0 && first <= MOST_WEEKS_TOLD ? 0 : OUTSIDE;
            case GIFT_TOLD:
                return isHouse(first) ? 0 : UNKNOWN;
            case CRATE_TOLD:
                return isCrate(first) ? 0 : OUTSIDE;
            default:
                return OUTSIDE;
        }
    }

    private int actPairs(int[] cells, int from, int pairs) {
        for (int pair = 0; pair < pairs; pair++) {
            if (!actPair(cells[from + 2 * pair], cells[from + 2 * pair + 1])) {
                return pair;
            }
        }
        return NONE;
    }

    private boolean actPair(int first, int second) {
        if (second == GIFT_TOLD) {
            return trial.giveOneFrom(first);
        }
        if (second == CRATE_TOLD) {
            trial.crate = first;
        } else {
            trial.passWeeks(first);
        }
        return true;
    }

    private int answerOfSeason(int what) {
        switch (what) {
            case 0:
                return trial.sumOf(trial.stock);
            case 2:
                return trial.sumOf(trial.temper);
            case 3:
                return trial.leanWeeks;
            case 4:
                return trial.sumOf(trial.pips);
            default:
                int k = what - ASKS_HOUSE;
                return isHouse(k) ? trial.temper[k] : NONE;
        }
    }

    // ---- how it would be dealt, what was dealt

    private int loserByOneMore(int lemons) {
        now.dealOut(lemons);
        trial.dealOut(lemons + 1);
        for (int k = 0; k < now.houses; k++) {
            if (now.dealt[k] > trial.dealt[k]) {
                return k;
            }
        }
        return NONE;
    }

    private int apartBy(int firstSet) {
        int apart = 0;
        for (int k = 0; k < now.houses; k++) {
            boolean isInFirst = (firstSet >> k & 1) == 1;
            apart += isInFirst ? now.sourOf(k) : -now.sourOf(k);
        }
        return Math.abs(apart);
    }

    private boolean readingsHoldInTrial() {
        trial.dealOut(trial.crate);
        for (int r = 0; r < readings; r++) {
            if (trial.dealt[readHouse[r]] != readDealt[r]) {
                return false;
            }
        }
        return true;
    }

    // ---- bodies that tell

    private int tellAsPlain(int k) {
        leaveInTrace(1);
        return now.temper[k];
    }

    private int tellAsTart(int k) {
        leaveInTrace(2);
        return tellAsPlain(k) + 100;
    }

    private int tellAsBitter(int k) {
        leaveInTrace(3);
        int byTart = tellAsTart(k);
        return byTart + tellAsPlain(k);
    }

    private void leaveInTrace(int number) {
        traced = 31 * traced + number;
    }

    /** Houses as they stand in a week, with the crate; no houses: there is no street. */
    private static final class Street {
        private int houses = 0;
        private int crate = 0;
        private int week = 0;
        // Weeks behind which a house was without stock, since the last becomeLike.
        private int leanWeeks = 0;
        private final int[] kind = new int[MOST_HOUSES];
        private final int[] temper = new int[MOST_HOUSES];
        private final int[] stock = new int[MOST_HOUSES];
        private final int[] pips = new int[MOST_HOUSES];
        // Rows of the latest deal, made once so that no call makes any.
        private final int[] sour = new int[MOST_HOUSES];
        private final int[] dealt = new int[MOST_HOUSES];
        private final int[] remainder = new int[MOST_HOUSES];

        private void beginByText(int[] codes, int from, int n) {
            crate = (codes[from + 1] - '0') * 10 + codes[from + 2] - '0';
            week = 0;
            houses = Math.min((n - TEXT_HEAD) / TEXT_HOUSE, MOST_HOUSES);
            for (int k = 0; k < houses; k++) {
                int at = from + TEXT_HEAD + TEXT_HOUSE * k;
                kind[k] = kindByLetter(codes[at + 1]);
                temper[k] = codes[at + 2] - '0';
                stock[k] = codes[at + 3] - '0';
                pips[k] = 0;
            }
        }

        private void becomeLike(Street other) {
            houses = other.houses;
            crate = other.crate;
            week = other.week;
            leanWeeks = 0;
            for (int k = 0; k < houses; k++) {
                kind[k] = other.kind[k];
                temper[k] = other.temper[k];
                stock[k] = other.stock[k];
                pips[k] = other.pips[k];
            }
        }

        private int treesOf(int k) {
            return pips[k] / PIPS_A_TREE;
        }

        private int sourOf(int k) {
            switch (kind[k]) {
                case TART:
                    return temper[k] + 1;
                case BITTER:
                    return 2 * (temper[k] + 1);
                default:
                    return temper[k];
            }
        }

        private int dealtTo(int k, int lemons) {
            dealOut(lemons);
            return dealt[k];
        }

        private void dealOut(int lemons) {
            int all = 0;
            for (int k = 0; k < houses; k++) {
                sour[k] = sourOf(k);
                all += sour[k];
            }
            int left = all > 0 ? lemons : 0;
            for (int k = 0; k < houses; k++) {
                dealt[k] = all > 0 ? lemons * sour[k] / all : 0;
                remainder[k] = all > 0 ? lemons * sour[k] % all : 0;
                left -= dealt[k];
            }
            // Fewer are left than houses have a remainder, so none gets two of them.
            for (int k = 0; k < houses; k++) {
                if (aheadByRemainder(k) < left) {
                    dealt[k]++;
                }
            }
        }

        private int aheadByRemainder(int k) {
            int ahead = 0;
            for (int h = 0; h < houses; h++) {
                if (remainder[h] > remainder[k] || (remainder[h] == remainder[k] && h < k)) {
                    ahead++;
                }
            }
            return ahead;
        }

        private void dealOneByOne(int lemons) {
            for (int k = 0; k < houses; k++) {
                sour[k] = sourOf(k);
                dealt[k] = 0;
            }
            for (int lemon = 0; lemon < lemons; lemon++) {
                int next = nextOneByOne();
                if (next != NONE) {
                    dealt[next]++;
                }
            }
        }

        private int nextOneByOne() {
            int next = NONE;
            for (int k = 0; k < houses; k++) {
                if (sour[k] > 0 && (next == NONE || isAheadOneByOne(k, next))) {
                    next = k;
                }
            }
            return next;
        }

        private boolean isAheadOneByOne(int k, int other) {
            // Shares are compared crosswise: a quotient would cut them.
            return sour[k] * (dealt[other] + 1) > sour[other] * (dealt[k] + 1);
        }

        private void passWeeks(int n) {
            for (int passed = 0; passed < n; passed++) {
                passWeek();
            }
        }

        private void passWeek() {
            dealOut(crate);
            for (int k = 0; k < houses; k++) {
                stock[k] += dealt[k] + treesOf(k);
                suck(k);
            }
            week++;
            if (withoutStock() > 0) {
                leanWeeks++;
            }
        }

        private void suck(int k) {
            if (stock[k] > 0) {
                stock[k]--;
                temper[k] = Math.max(temper[k] - 1, 0);
                pips[k]++;
            } else {
                temper[k] = Math.min(temper[k] + 1, MOST_TEMPER);
            }
        }

        private boolean giveOneFrom(int k) {
            if (stock[k] <= 0) {
                return false;
            }
            stock[k]--;
            stock[k + 1 < houses ? k + 1 : 0]++;
            return true;
        }

        private int withoutStock() {
            int without = 0;
            for (int k = 0; k < houses; k++) {
                if (stock[k] <= 0) {
                    without++;
                }
            }
            return without;
        }

        private int worstTemper() {
            int worst = 0;
            for (int k = 0; k < houses; k++) {
                worst = Math.max(worst, temper[k]);
            }
            return worst;
        }

        private int sumOf(int[] row) {
            int sum = 0;
            for (int k = 0; k < houses; k++) {
                sum += row[k];
            }
            return sum;
        }
    }

    /** Nothing, or a row of numbers of a lane. */
    private static final class Sheet {
        private final int[] cells = new int[MOST_CELLS];
        private int lane = BYTES;
        private int length = NOTHING;

        private void begin(int newLane, int n) {
            lane = newLane;
            length = n;
            for (int i = 0; i < n; i++) {
                cells[i] = 0;
            }
        }

        private boolean isThere() {
            return length != NOTHING;
        }

        private int faultAs(int asLane) {
            if (!isThere()) {
                return NULL;
            }
            return lane == asLane ? NO_FAULT : CAST;
        }

        private boolean hasCell(int i) {
            return i >= 0 && i < length;
        }

        private boolean lacks(int i, int n) {
            return i < 0 || n < 0 || i > length || n > length - i;
        }

        private int cutToLane(int v) {
            switch (lane) {
                case BYTES:
                    return (byte) v;
                case SHORTS:
                    return (short) v;
                default:
                    return v;
            }
        }
    }
}
