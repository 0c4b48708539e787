/** A valley of seven fields, and the tortoise with the deeds that goes through it. */
public final class DeedTortoise {
    public static final int BAD = -1, NOT = -2, FULL = -3, NONE = -4, NULL = -11, CAST = -12, INDEX = -13, SIZE = -14;

    private static final int FIELDS = 7, LAST_FIELD = 6, KINDS = 5, MOST_FOOD = 9, MOST_HEDGE = 4;
    private static final int MEADOW = 0, CLOVER = 1, STUBBLE = 2, GARDEN = 3, LANE = 4;
    private static final int CLAIMS = 5, MOST_WORTH = 99, PAST = 8, LAST_DAY = 9999;
    private static final int DAYS_DONE = 40, DAYS_FORETOLD = 9, DAYS_SEEN = 8, DAYS_OF_WINTER = 4;
    private static final int TENTHS = 10, HUNDREDTHS = 100;
    private static final int TAPE = 80, FIRST_LETTER = 32, LAST_LETTER = 126, FAULT = -20;
    private static final int SHEETS = 4, LANES = 4, ITEMS = 24;

    private final Land land;
    private final Land kept;
    private final Land trial;
    private final Ways ways;
    private final Fraction fraction;
    private final Fraction tried;
    private final Reader reader;
    private final Sheet[] sheets;
    private boolean hasKept;

    public DeedTortoise() {
        land = new Land();
        kept = new Land();
        trial = new Land();
        ways = new Ways();
        fraction = new Fraction();
        tried = new Fraction();
        reader = new Reader();
        sheets = new Sheet[SHEETS];
        for (int s = 0; s < SHEETS; s++) {
            sheets[s] = new Sheet();
        }
        hasKept = false;
    }

    // ---- 1 fields, claims

    public int field(int field, int kind) {
        if (!isField(field) || !isWithin(kind, 0, KINDS - 1)) {
            return BAD;
        }
        int was = land.kind[field];
        land.kind[field] = kind;
        land.forget();
        return was;
    }

    public int claim(int from, int to, int worth) {
        if (!isField(from) || !isWithin(to, from, LAST_FIELD) || !isWithin(worth, 1, MOST_WORTH)) {
            return BAD;
        }
        if (!land.addClaim(from, to, worth)) {
            return FULL;
        }
        land.forget();
        return land.claims - 1;
    }

    public int of(int field, int what) {
        if (!isField(field)) {
            return BAD;
        }
        switch (what) {
            case 0:
                return land.kind[field];
            case 1:
                return land.now.food[field];
            case 2:
                return land.now.hedge[field];
            case 3:
                return land.onFrom(field);
            case 4:
                return land.backFrom(field);
            default:
                return BAD;
        }
    }

    public int at(int claim, int what) {
        if (!isClaim(claim)) {
            return BAD;
        }
        switch (what) {
            case 0:
                return land.first[claim];
            case 1:
                return land.last[claim];
            case 2:
                return land.worth[claim];
            default:
                return BAD;
        }
    }

    public int type(int letter) {
        if (!isWithin(letter, FIRST_LETTER, LAST_LETTER)) {
            return BAD;
        }
        return reader.add(letter) ? reader.length : FULL;
    }

    public int valley() {
        trial.takeGround(land);
        boolean isValley = reader.readValley(trial);
        int fault = FAULT - reader.place;
        reader.clear();
        if (!isValley) {
            return fault;
        }
        land.takeGround(trial);
        land.takeClaims(trial);
        land.now.day = 0;
        land.forget();
        return land.claims;
    }

    public int count(int what) {
        switch (what) {
            case 0:
                return land.claims;
            case 1:
                return land.now.spot;
            case 2:
                return land.now.day;
            case 3:
                return sum(land.now.food);
            case 4:
                return sum(land.now.hedge);
            case 5:
                return land.claimsOn(land.now.spot);
            case 6:
                return land.known;
            default:
                return BAD;
        }
    }

    // ---- what is done

    public int days(int n) {
        if (!isWithin(n, 1, DAYS_DONE)) {
            return BAD;
        }
        if (land.now.day > LAST_DAY - n) {
            return FULL;
        }
        for (int d = 0; d < n; d++) {
            land.remember();
            land.passDay();
        }
        return land.now.spot;
    }

    public int carry(int field) {
        if (!isField(field)) {
            return BAD;
        }
        int was = land.now.spot;
        if (was == field) {
            return NOT;
        }
        land.remember();
        land.now.spot = field;
        return was;
    }

    public int lettuce(int field, int n) {
        if (!isField(field) || !isWithin(n, 1, MOST_FOOD)) {
            return BAD;
        }
        if (land.now.food[field] >= MOST_FOOD) {
            return NOT;
        }
        land.remember();
        land.now.food[field] = Math.min(MOST_FOOD, land.now.food[field] + n);
        return land.now.food[field];
    }

    public int lay(int field, int hedge) {
        if (!isField(field) || !isWithin(hedge, 0, MOST_HEDGE)) {
            return BAD;
        }
        int was = land.now.hedge[field];
        if (was == hedge) {
            return NOT;
        }
        land.remember();
        land.now.hedge[field] = hedge;
        return was;
    }

    public int undo() {
        return land.recall() ? land.known : NONE;
    }

    public int seed(int v) {
        if (v < 0) {
            return BAD;
        }
        int was = land.now.draw;
        land.now.draw = v;
        return was;
    }

    // ---- 2 foretold

    public int chance(int field, int n, int what) {
        if (!isField(field) || !isForetold(n) || !isWithin(what, 0, 1)) {
            return BAD;
        }
        foretell(land, n);
        fraction.become(ways.odds[field], ways.all);
        return (int) fraction.told(what);
    }

    public int likely(int n) {
        if (!isForetold(n)) {
            return BAD;
        }
        foretell(land, n);
        int best = 0;
        for (int f = 1; f < FIELDS; f++) {
            if (ways.odds[f] > ways.odds[best]) {
                best = f;
            }
        }
        return best;
    }

    public long mean(int field, int what) {
        if (!isAhead(field) || !isWithin(what, 0, 1)) {
            return BAD;
        }
        ways.learn(land);
        ways.average(land.now.spot, field, fraction);
        return fraction.told(what);
    }

    public int right(int claim, int n, int what) {
        if (!isClaim(claim) || !isForetold(n) || !isWithin(what, 0, 2)) {
            return BAD;
        }
        foretell(land, n);
        long weight = 0;
        for (int f = land.first[claim]; f <= land.last[claim]; f++) {
            weight += ways.odds[f];
        }
        fraction.become(weight, ways.all);
        return (int) (what == 2 ? fraction.partOf(land.worth[claim]) : fraction.told(what));
    }

    public int sure(int n) {
        if (!isForetold(n)) {
            return BAD;
        }
        foretell(land, n);
        int set = 0;
        for (int f = 0; f < FIELDS; f++) {
            if (ways.odds[f] > 0) {
                set |= 1 << f;
            }
        }
        return set;
    }

    public long down(int field, int what) {
        if (!isAhead(field) || !isWithin(what, 0, 2)) {
            return BAD;
        }
        int best = hedgeToOpen(field);
        return what == 0 ? best : fraction.told(what - 1);
    }

    public int keep(int n, int c) {
        if (!isWithin(n, 1, DAYS_FORETOLD) || !isWithin(c, 0, HUNDREDTHS)) {
            return BAD;
        }
        int spot = land.now.spot;
        trial.takeGround(land);
        for (int food = 0; food <= MOST_FOOD; food++) {
            trial.now.food[spot] = food;
            foretell(trial, n);
            if (ways.isLikelyBy(spot, c)) {
                return food;
            }
        }
        return NONE;
    }

    public int early(int field, int c) {
        if (!isField(field) || !isWithin(c, 0, HUNDREDTHS)) {
            return BAD;
        }
        for (int n = 0; n <= DAYS_FORETOLD; n++) {
            foretell(land, n);
            if (ways.isLikelyBy(field, c)) {
                return n;
            }
        }
        return NONE;
    }

    public int next(int n) {
        if (!isWithin(n, 0, DAYS_DONE)) {
            return BAD;
        }
        trial.takeGround(land);
        for (int d = 0; d < n; d++) {
            trial.passDay();
        }
        return trial.now.spot;
    }

    public int winter(int field, int n, int c, int what) {
        if (!isField(field) || !isWithin(n, 0, DAYS_OF_WINTER)) {
            return BAD;
        }
        if (!isWithin(c, 0, TENTHS) || !isWithin(what, 0, 1)) {
            return BAD;
        }
        ways.learn(land);
        ways.fallAsleep(c);
        ways.spread(land.now.spot, n);
        fraction.become(ways.odds[field], ways.all);
        return (int) fraction.told(what);
    }

    public int image() {
        kept.takeAll(land);
        hasKept = true;
        return 1;
    }

    public int restore() {
        if (!hasKept) {
            return NONE;
        }
        land.takeAll(kept);
        return 1;
    }

    // ---- 3 sheets

    public int seen(int sheet, int lane, int i, int n, int what) {
        if (!isSheet(sheet) || !isLane(lane) || !isWithin(n, 1, DAYS_SEEN) || !isWithin(what, 0, 2)) {
            return BAD;
        }
        Sheet row = sheets[sheet];
        int refused = row.refusal(lane, i, n);
        if (refused != 0) {
            return refused;
        }
        ways.learn(land);
        if (what == 2) {
            return fieldsBefore(row, i, n);
        }
        fraction.become(weightOf(land.now.spot, row, i, n), power(TENTHS, n));
        return (int) fraction.told(what);
    }

    public int bore(int field, int sheet, int lane, int i, int n, int what) {
        if (!isField(field) || !isSheet(sheet) || !isLane(lane)) {
            return BAD;
        }
        if (!isWithin(n, 1, DAYS_SEEN) || !isWithin(what, 0, 1)) {
            return BAD;
        }
        Sheet row = sheets[sheet];
        int refused = row.refusal(lane, i, n);
        if (refused != 0) {
            return refused;
        }
        return what == 0 ? kindsFor(field, row, i, n) : foodsFor(field, row, i, n);
    }

    public int film(int n, int sheet, int lane, int i) {
        if (!isWithin(n, 1, ITEMS) || !isSheet(sheet) || !isLane(lane)) {
            return BAD;
        }
        Sheet row = sheets[sheet];
        int refused = row.refusal(lane, i, n);
        if (refused != 0) {
            return refused;
        }
        trial.takeGround(land);
        for (int d = 0; d < n; d++) {
            trial.passDay();
            row.put(i + d, trial.now.spot);
        }
        return n;
    }

    public int sheet(int sheet, int lane, int n) {
        if (!isSheet(sheet) || !isLane(lane) || n > ITEMS) {
            return BAD;
        }
        if (n < 0) {
            return SIZE;
        }
        sheets[sheet].begin(lane, n);
        return n;
    }

    public int drop(int sheet) {
        if (!isSheet(sheet)) {
            return BAD;
        }
        Sheet row = sheets[sheet];
        if (!row.isHeld) {
            return NULL;
        }
        row.isHeld = false;
        return row.length;
    }

    public int item(int sheet, int lane, int i, long v) {
        if (!isSheet(sheet) || !isLane(lane)) {
            return BAD;
        }
        Sheet row = sheets[sheet];
        int refused = row.refusal(lane, i, 1);
        if (refused != 0) {
            return refused;
        }
        row.put(i, v);
        return 1;
    }

    public int copy(int from, int i, int to, int j, int n) {
        if (!isSheet(from) || !isSheet(to)) {
            return BAD;
        }
        Sheet source = sheets[from];
        Sheet target = sheets[to];
        if (!source.isHeld || !target.isHeld) {
            return NULL;
        }
        if (source.lane != target.lane) {
            return CAST;
        }
        if (!source.hasItems(i, n) || !target.hasItems(j, n)) {
            return INDEX;
        }
        System.arraycopy(source.items, i, target.items, j, n);
        return n;
    }

    // ---- what the calls ask of their numbers

    private static boolean isWithin(int number, int least, int most) {
        return number >= least && number <= most;
    }

    private static boolean isField(int field) {
        return isWithin(field, 0, LAST_FIELD);
    }

    private static boolean isForetold(int n) {
        return isWithin(n, 0, DAYS_FORETOLD);
    }

    private static boolean isSheet(int sheet) {
        return isWithin(sheet, 0, SHEETS - 1);
    }

    private static boolean isLane(int lane) {
        return isWithin(lane, 0, LANES - 1);
    }

    private boolean isClaim(int claim) {
        return isWithin(claim, 0, land.claims - 1);
    }

    private boolean isAhead(int field) {
        return isWithin(field, land.now.spot, LAST_FIELD);
    }

    // ---- what several calls need

    private static int sum(int[] numbers) {
        int sum = 0;
        for (int number : numbers) {
            sum += number;
        }
        return sum;
    }

    private static long power(long base, int n) {
        long power = 1;
        for (int k = 0; k < n; k++) {
            power *= base;
        }
        return power;
    }

    private void foretell(Land ground, int n) {
        ways.learn(ground);
        ways.spread(ground.now.spot, n);
    }

    // the fraction is left as the least mean: down() tells that, too
    private int hedgeToOpen(int field) {
        int best = 0;
        for (int f = 0; f < FIELDS; f++) {
            trial.takeGround(land);
            trial.now.hedge[f] = 0;
            ways.learn(trial);
            ways.average(land.now.spot, field, tried);
            if (f == 0 || tried.isBelow(fraction)) {
                best = f;
                fraction.become(tried.above, tried.below);
            }
        }
        return best;
    }

    private long weightOf(int start, Sheet row, int i, int n) {
        long weight = 1;
        int spot = start;
        for (int d = 0; d < n; d++) {
            int reached = row.fieldAt(i + d);
            weight *= ways.weight(spot, reached);
            spot = reached;
        }
        return weight;
    }

    private int fieldsBefore(Sheet row, int i, int n) {
        int set = 0;
        for (int f = 0; f < FIELDS; f++) {
            if (weightOf(f, row, i, n) > 0) {
                set |= 1 << f;
            }
        }
        return set;
    }

    private int kindsFor(int field, Sheet row, int i, int n) {
        int set = 0;
        for (int kind = 0; kind < KINDS; kind++) {
            trial.takeGround(land);
            trial.kind[field] = kind;
            if (goesAsTold(row, i, n)) {
                set |= 1 << kind;
            }
        }
        return set;
    }

    private int foodsFor(int field, Sheet row, int i, int n) {
        int set = 0;
        for (int food = 0; food <= MOST_FOOD; food++) {
            trial.takeGround(land);
            trial.now.food[field] = food;
            if (goesAsTold(row, i, n)) {
                set |= 1 << food;
            }
        }
        return set;
    }

    private boolean goesAsTold(Sheet row, int i, int n) {
        for (int d = 0; d < n; d++) {
            trial.passDay();
            if (trial.now.spot != row.fieldAt(i + d)) {
                return false;
            }
        }
        return true;
    }

    /** What a thing done can change, and what undoing it brings back. */
    private static final class Moment {
        int spot = 0;
        int day = 0;
        int draw = 1;
        final int[] food = new int[FIELDS];
        final int[] hedge = new int[FIELDS];

        void take(Moment other) {
            spot = other.spot;
            day = other.day;
            draw = other.draw;
            System.arraycopy(other.food, 0, food, 0, FIELDS);
            System.arraycopy(other.hedge, 0, hedge, 0, FIELDS);
        }
    }

    /** The valley with its tortoise, its claims and what may be undone. */
    private static final class Land {
        private static final int ON_FROM_MEADOW = 5, BITS_OF_DRAW = 0x7fffffff;
        final int[] kind = new int[FIELDS];
        final Moment now = new Moment();
        // the latest one known comes last, so that the oldest one is lost from the front
        final Moment[] past = new Moment[PAST];
        int known = 0;
        final int[] first = new int[CLAIMS];
        final int[] last = new int[CLAIMS];
        final int[] worth = new int[CLAIMS];
        int claims = 0;

        Land() {
            for (int p = 0; p < PAST; p++) {
                past[p] = new Moment();
            }
        }

        int onFrom(int field) {
            if (!isWithin(field, 0, LAST_FIELD - 1)) {
                return 0;
            }
            int food = now.food[field];
            switch (kind[field]) {
                case CLOVER:
                    return onFromClover(food);
                case STUBBLE:
                    return onFromStubble(food);
                case GARDEN:
                    return Math.max(1, onFromClover(food) - 3);
                case LANE:
                    return onFromStubble(food) + 2;
                case MEADOW:
                default:
                    return ON_FROM_MEADOW;
            }
        }

        private static int onFromClover(int food) {
            return ON_FROM_MEADOW - food / 2;
        }

        private static int onFromStubble(int food) {
            return ON_FROM_MEADOW + (food == 0 ? 2 : 0);
        }

        int backFrom(int field) {
            if (!isWithin(field, 1, LAST_FIELD)) {
                return 0;
            }
            return Math.min(now.hedge[field], TENTHS - onFrom(field));
        }

        void passDay() {
            int field = now.spot;
            int on = onFrom(field);
            int back = backFrom(field);
            now.draw = (now.draw * 1103515245 + 12345) & BITS_OF_DRAW;
            int drawn = now.draw / 65536 % TENTHS;
            if (drawn < on) {
                now.spot = field + 1;
            } else if (drawn < on + back) {
                now.spot = field - 1;
            } else {
                eat(field);
            }
            now.day++;
        }

        private void eat(int field) {
            if (isField(field) && now.food[field] > 0) {
                now.food[field]--;
            }
        }

        void remember() {
            if (known >= PAST) {
                loseOldest();
            }
            past[known].take(now);
            known++;
        }

        private void loseOldest() {
            Moment oldest = past[0];
            for (int p = 1; p < PAST; p++) {
                past[p - 1] = past[p];
            }
            past[PAST - 1] = oldest;
            known = PAST - 1;
        }

        boolean recall() {
            if (known <= 0) {
                return false;
            }
            known--;
            now.take(past[known]);
            return true;
        }

        void forget() {
            known = 0;
        }

        boolean addClaim(int from, int to, int price) {
            if (claims >= CLAIMS) {
                return false;
            }
            first[claims] = from;
            last[claims] = to;
            worth[claims] = price;
            claims++;
            return true;
        }

        int claimsOn(int field) {
            int set = 0;
            for (int c = 0; c < claims; c++) {
                if (isWithin(field, first[c], last[c])) {
                    set |= 1 << c;
                }
            }
            return set;
        }

        void takeGround(Land other) {
            System.arraycopy(other.kind, 0, kind, 0, FIELDS);
            now.take(other.now);
        }

        void takeClaims(Land other) {
            System.arraycopy(other.first, 0, first, 0, CLAIMS);
            System.arraycopy(other.last, 0, last, 0, CLAIMS);
            System.arraycopy(other.worth, 0, worth, 0, CLAIMS);
            claims = other.claims;
        }

        void takeAll(Land other) {
            takeGround(other);
            takeClaims(other);
            for (int p = 0; p < other.known; p++) {
                past[p].take(other.past[p]);
            }
            known = other.known;
        }
    }

    /** By how much of a whole the tortoise goes on or back, and how its odds spread by that. */
    private static final class Ways {
        final int[] on = new int[FIELDS];
        final int[] back = new int[FIELDS];
        int whole = TENTHS;
        final long[] odds = new long[FIELDS];
        final long[] after = new long[FIELDS];
        long all = 1;
        final Fraction step = new Fraction();

        void learn(Land land) {
            whole = TENTHS;
            for (int f = 0; f < FIELDS; f++) {
                on[f] = land.onFrom(f);
                back[f] = land.backFrom(f);
            }
        }

        void fallAsleep(int tenths) {
            whole = TENTHS * TENTHS;
            for (int f = 0; f < FIELDS; f++) {
                on[f] *= TENTHS - tenths;
                back[f] *= TENTHS - tenths;
            }
        }

        int weight(int from, int to) {
            if (!isField(from) || !isField(to)) {
                return 0;
            }
            if (to == from) {
                return whole - on[from] - back[from];
            }
            if (to == from + 1) {
                return on[from];
            }
            return to == from - 1 ? back[from] : 0;
        }

        void spread(int spot, int n) {
            for (int f = 0; f < FIELDS; f++) {
                odds[f] = f == spot ? 1 : 0;
            }
            for (int d = 0; d < n; d++) {
                spreadOneDay();
            }
            all = power(whole, n);
        }

        private void spreadOneDay() {
            for (int f = 0; f < FIELDS; f++) {
                after[f] = odds[f] * weight(f, f);
                if (f > 0) {
                    after[f] += odds[f - 1] * on[f - 1];
                }
                if (f < LAST_FIELD) {
                    after[f] += odds[f + 1] * back[f + 1];
                }
            }
            System.arraycopy(after, 0, odds, 0, FIELDS);
        }

        boolean isLikelyBy(int field, int hundredths) {
            return odds[field] * HUNDREDTHS >= all * hundredths;
        }

        // it must pass every field between, so the days from each one to the next one add up;
        // those from below its own count, since hedges may send it back there
        void average(int from, int to, Fraction sum) {
            sum.become(0, 1);
            step.become(0, 1);
            for (int f = 0; f < to; f++) {
                step.become(whole * step.below + back[f] * step.above, on[f] * step.below);
                if (f >= from) {
                    sum.add(step);
                }
            }
        }
    }

    /** A fraction in lowest terms. */
    private static final class Fraction {
        // Euclid needs fewer than a hundred turns for any two longs
        private static final int MOST_TURNS = 1000;
        long above = 0;
        long below = 1;

        void become(long upper, long lower) {
            long common = commonDivisor(upper, lower);
            if (common > 0) {
                above = upper / common;
                below = lower / common;
            }
        }

        private static long commonDivisor(long a, long b) {
            for (int turn = 0; turn < MOST_TURNS && b != 0; turn++) {
                long left = a % b;
                a = b;
                b = left;
            }
            return a;
        }

        void add(Fraction other) {
            become(above * other.below + other.above * below, below * other.below);
        }

        boolean isBelow(Fraction other) {
            return above * other.below < other.above * below;
        }

        long told(int what) {
            return what == 0 ? above : below;
        }

        long partOf(long number) {
            return below > 0 ? number * above / below : 0;
        }
    }

    /** The tape, and the reading of a valley from it; where the reading stops, the fault is. */
    private static final class Reader {
        private static final int END = -1, BLANK = 32;
        final int[] letters = new int[TAPE];
        int length = 0;
        int place = 0;

        boolean add(int letter) {
            if (length >= TAPE) {
                return false;
            }
            letters[length] = letter;
            length++;
            return true;
        }

        void clear() {
            length = 0;
        }

        boolean readValley(Land land) {
            place = 0;
            land.claims = 0;
            int spot = readDigit(0, LAST_FIELD);
            if (spot < 0 || !accepts(':')) {
                return false;
            }
            land.now.spot = spot;
            for (int f = 0; f < FIELDS; f++) {
                if (!readField(land, f)) {
                    return false;
                }
            }
            if (accepts(';') && !readClaims(land)) {
                return false;
            }
            return look() == END;
        }

        private boolean readField(Land land, int field) {
            int kind = kindOf(look());
            if (kind < 0) {
                return false;
            }
            place++;
            land.kind[field] = kind;
            land.now.food[field] = Math.max(0, readDigit(0, MOST_FOOD));
            land.now.hedge[field] = 0;
            if (!accepts('#')) {
                return true;
            }
            int hedge = readDigit(1, MOST_HEDGE);
            if (hedge < 0) {
                return false;
            }
            land.now.hedge[field] = hedge;
            return true;
        }

        private static int kindOf(int letter) {
            switch (letter) {
                case 'm':
                    return MEADOW;
                case 'c':
                    return CLOVER;
                case 's':
                    return STUBBLE;
                case 'g':
                    return GARDEN;
                case 'l':
                    return LANE;
                default:
                    return -1;
            }
        }

        private boolean readClaims(Land land) {
            for (int c = 0; c < CLAIMS; c++) {
                if (c > 0 && !accepts(',')) {
                    return true;
                }
                if (!readClaim(land)) {
                    return false;
                }
            }
            return true;
        }

        private boolean readClaim(Land land) {
            int from = readDigit(0, LAST_FIELD);
            if (from < 0 || !accepts('-')) {
                return false;
            }
            int to = readDigit(from, LAST_FIELD);
            if (to < 0 || !accepts('=')) {
                return false;
            }
            int worth = readWorth();
            return worth > 0 && land.addClaim(from, to, worth);
        }

        private int readWorth() {
            int worth = readDigit(0, 9);
            if (worth < 0) {
                return -1;
            }
            int start = place - 1;
            // not readDigit: that one would go over blanks, and they end a number
            if (place < length && isWithin(letters[place], '0', '9')) {
                worth = worth * 10 + letters[place] - '0';
                place++;
            }
            if (worth < 1) {
                place = start;
                return -1;
            }
            return worth;
        }

        private int look() {
            while (place < length && letters[place] == BLANK) {
                place++;
            }
            return place < length ? letters[place] : END;
        }

        private boolean accepts(int letter) {
            if (look() != letter) {
                return false;
            }
            place++;
            return true;
        }

        // no digit is -1, since 0 is one
        private int readDigit(int least, int most) {
            int digit = look() - '0';
            if (!isWithin(digit, least, most)) {
                return -1;
            }
            place++;
            return digit;
        }
    }

    /** A row of a lane, or nothing. */
    private static final class Sheet {
        boolean isHeld = false;
        int lane = 0;
        int length = 0;
        final long[] items = new long[ITEMS];

        void begin(int rowLane, int rowLength) {
            isHeld = true;
            lane = rowLane;
            length = rowLength;
            for (int k = 0; k < ITEMS; k++) {
                items[k] = 0;
            }
        }

        boolean hasItems(int i, int n) {
            return n >= 0 && n <= length && i >= 0 && i <= length - n;
        }

        // 0: nothing is refused
        int refusal(int asLane, int i, int n) {
            if (!isHeld) {
                return NULL;
            }
            if (lane != asLane) {
                return CAST;
            }
            return hasItems(i, n) ? 0 : INDEX;
        }

        void put(int i, long v) {
            switch (lane) {
                case 0:
                    items[i] = (byte) v;
                    break;
                case 1:
                    items[i] = (short) v;
                    break;
                case 2:
                    items[i] = (int) v;
                    break;
                default:
                    items[i] = v;
                    break;
            }
        }

        // an item that names no field is told as -1, to which no way leads: such a row is impossible
        int fieldAt(int i) {
            long v = items[i];
            return v >= 0 && v <= LAST_FIELD ? (int) v : -1;
        }
    }
}
