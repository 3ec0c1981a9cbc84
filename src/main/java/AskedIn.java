import java.util.Arrays;

/** Night folk who may cross no sill unasked, and the street of houses that they try. */
public final class AskedIn {
    public static final int NONE = -1, BAD = -2, STATE = -3, FULL = -4;
    /** There is no such number. */
    public static final long NO = Long.MIN_VALUE;

    /** The answer of a question that nobody, no house or no number meets. */
    private static final int NOT_ANY = -5;
    private static final int FAULTY = -10, NOTHING = -11, CAST = -12, PLACE = -13, SIZE = -14;
    /** A tape judged answers this, and how many were looked at, where it ends too early. */
    private static final int CUT_SHORT = 100;

    private static final int MOST_HOUSES = 6, MOST_FOLK = 4, MOST_TOWNS = 6, MOST_TAPES = 6;
    private static final int MOST_SIGNS = 100, MOST_IN_SET = 5;
    private static final int LAST_KIND = 6, LAST_V = 9, LAST_COIN = 9, LAST_QUICKNESS = 9;
    private static final int LAST_GRAIN = 99, LAST_SIGN = 127, LAST_PART = 3;

    private static final int HOUSE = 0, LONELY = 1, PROUD = 2, LANDLORD = 3;
    private static final int SAD = 4, VAIN = 5, TOLD = 6;
    /** The kind above each kind. */
    private static final int[] ABOVE = {NONE, HOUSE, HOUSE, HOUSE, LONELY, PROUD, LANDLORD};

    private final Street now;
    private final Street kept = new Street();
    private boolean hasImage;
    private final Text text = new Text();
    private final Towns towns;
    private final Questions questions;
    private final Acts acts = new Acts();
    private final Tapes tapes = new Tapes();

    public AskedIn() {
        Street street = new Street();
        Towns readTowns = new Towns();
        now = street;
        towns = readTowns;
        questions = new Questions(street, readTowns);
    }

    // ---- houses, folk, towns

    public int house(int kind, int v, int grain) {
        if (!isUpTo(kind, LAST_KIND)) {
            return NONE;
        }
        if (!isUpTo(v, LAST_V) || !isUpTo(grain, LAST_GRAIN)) {
            return BAD;
        }
        return now.build(kind, v, grain);
    }

    public int folk(int sack, int coins, int quickness) {
        if (!now.hasHouse(sack)) {
            return NONE;
        }
        if (!isUpTo(coins, LAST_COIN) || quickness < 1 || quickness > LAST_QUICKNESS) {
            return BAD;
        }
        return now.wake(sack, coins, quickness);
    }

    public int of(int house, int what) {
        if (!now.hasHouse(house)) {
            return NONE;
        }
        switch (what) {
            case 0: return now.kinds[house];
            case 1: return now.numbers[house];
            case 2: return now.grains[house];
            case 3: return now.asked[house];
            default: return paceAt(house, what);
        }
    }

    public int who(int folk, int what) {
        if (!now.hasFolk(folk)) {
            return NONE;
        }
        switch (what) {
            case 0: return now.sacks[folk];
            case 1: return now.purses[folk];
            case 2: return now.quicknesses[folk];
            default: return NONE;
        }
    }

    public int strew(int house, int n) {
        if (!now.hasHouse(house)) {
            return NONE;
        }
        if (!isUpTo(n, LAST_GRAIN)) {
            return BAD;
        }
        int was = now.grains[house];
        now.grains[house] = n;
        return was;
    }

    public int ask(int house, int folk, boolean is) {
        if (!now.hasHouse(house) || !now.hasFolk(folk)) {
            return NONE;
        }
        int was = bit(now.asked[house], folk);
        now.asked[house] = withBit(now.asked[house], folk, is);
        return was;
    }

    public int sack(int folk, int house) {
        if (!now.hasFolk(folk) || !now.hasHouse(house)) {
            return NONE;
        }
        int was = now.sacks[folk];
        now.sacks[folk] = house;
        return was;
    }

    public int sell(int house, int kind, int v) {
        if (!now.hasHouse(house) || !isUpTo(kind, LAST_KIND)) {
            return NONE;
        }
        if (!isUpTo(v, LAST_V)) {
            return BAD;
        }
        int was = now.kinds[house];
        now.settle(house, kind, v);
        return was;
    }

    public int row(int house, int part, int n) {
        if (!now.hasHouse(house) || !isUpTo(part, LAST_PART)) {
            return NONE;
        }
        if (!isUpTo(n, 1)) {
            return BAD;
        }
        if (now.kinds[house] != TOLD) {
            return STATE;
        }
        int was = bit(now.rows[house], part);
        now.rows[house] = withBit(now.rows[house], part, n == 1);
        return was;
    }

    public int feed(int sign) {
        if (!isUpTo(sign, LAST_SIGN)) {
            return BAD;
        }
        return text.add(sign);
    }

    public int town() {
        if (towns.size >= MOST_TOWNS) {
            return FULL;
        }
        text.compile(towns.tokens[towns.size]);
        text.length = 0;
        if (text.fault != NONE) {
            return FAULTY - text.fault;
        }
        now.held = towns.add(text.noted, text.dawn);
        return now.held;
    }

    public int dawn() {
        return towns.dawnOf(now.held);
    }

    // ---- visits

    public int visit(int folk, int house, int what) {
        if (!now.hasFolk(folk) || !now.hasHouse(house)) {
            return NONE;
        }
        boolean in = questions.comesIn(folk, house, now.grains[house]);
        switch (what) {
            case 0: return questions.night.minute;
            case 1: return in ? 1 : 0;
            case 2: return questions.night.coins;
            default: return NONE;
        }
    }

    public int way(int house) {
        if (house == NONE) {
            return now.plan.empty();
        }
        if (!now.hasHouse(house)) {
            return NONE;
        }
        return now.plan.add(house, 0);
    }

    public int goes(int folk, int what) {
        if (!now.hasFolk(folk)) {
            return NONE;
        }
        int stopped = questions.followPlan(folk);
        switch (what) {
            case 0: return questions.night.minute;
            case 1: return questions.night.coins;
            case 2: return questions.night.in;
            case 3: return stopped;
            default: return NONE;
        }
    }

    public int round(int folk, int set, int what) {
        int k = what - 10;
        boolean isPlace = isUpTo(k, MOST_IN_SET - 1);
        if (!now.hasFolk(folk) || !isUpTo(what, 1) && !isPlace) {
            return NONE;
        }
        if (!isUpTo(set, (1 << now.houses) - 1) || Integer.bitCount(set) > MOST_IN_SET) {
            return BAD;
        }
        Round best = questions.bestRound(folk, set);
        if (isPlace) {
            return k < best.size ? best.row[k] : NOT_ANY;
        }
        return what == 0 ? best.ins : best.minute;
    }

    // ---- grain

    public int keep(int house, int folk) {
        if (!now.hasHouse(house) || !now.hasFolk(folk)) {
            return NONE;
        }
        return questions.leastGrain(folk, house);
    }

    public int more(int n, int what) {
        if (!isUpTo(what, 1)) {
            return NONE;
        }
        if (!isUpTo(n, LAST_GRAIN)) {
            return BAD;
        }
        int best = questions.houseToStrew(n);
        if (best == NOT_ANY || what == 0) {
            return best;
        }
        return questions.pairsAfter(best, n);
    }

    public int share(int one, int other, int house, int what) {
        if (!now.hasFolk(one) || !now.hasFolk(other) || !now.hasHouse(house) || !isUpTo(what, 1)) {
            return NONE;
        }
        if (one == other) {
            return BAD;
        }
        int done = questions.doneTogether(one, other, house);
        if (what == 0) {
            return done;
        }
        boolean letsOne = questions.night.isLetIn(one, house, done);
        boolean letsOther = questions.night.isLetIn(other, house, done);
        return (letsOne ? 1 : 0) + (letsOther ? 2 : 0);
    }

    // ---- who, when, odds, books

    public int watch(int house, boolean in) {
        if (house == NONE) {
            return now.watched.empty();
        }
        if (!now.hasHouse(house)) {
            return NONE;
        }
        return now.watched.add(house, in ? 1 : 0);
    }

    public int suspects() {
        return questions.whoBits();
    }

    public int next() {
        return questions.houseToWatch();
    }

    public int when(int folk, int house) {
        if (!now.hasFolk(folk) || !now.hasHouse(house)) {
            return NONE;
        }
        return questions.leastStart(folk, house);
    }

    public long odds(int folk, int house, int part) {
        if (!now.hasFolk(folk) || !now.hasHouse(house) || !isUpTo(part, 1)) {
            return NO;
        }
        return sideOfFraction(questions.goodStarts(folk, house), Questions.STARTS, part);
    }

    public long mean(int house, int part) {
        if (!now.hasHouse(house) || !isUpTo(part, 1) || now.folks == 0) {
            return NO;
        }
        return sideOfFraction(questions.minutesOfAll(house), now.folks, part);
    }

    public int book(int folk, int house) {
        if (folk == NONE) {
            return now.visits.empty();
        }
        if (!now.hasFolk(folk) || !now.hasHouse(house)) {
            return NONE;
        }
        return now.visits.add(folk, house);
    }

    public int looked() {
        return questions.firstKeptOut();
    }

    // ---- judging, the image, acts, tapes

    public int judge(int tape, int i) {
        if (!isUpTo(tape, MOST_TAPES - 1)) {
            return NONE;
        }
        if (tapes.sorts[tape] != NONE && tapes.sorts[tape] != Tapes.BYTES) {
            return CAST;
        }
        if (now.houses == 0) {
            return NOT_ANY;
        }
        if (i < 0) {
            return CUT_SHORT;
        }
        for (int house = 0; house < now.houses; house++) {
            if (i >= tapes.sizes[tape] - house) {
                return CUT_SHORT + house;
            }
            if (tapes.items[tape][i + house] != now.grains[house]) {
                return house;
            }
        }
        return NOT_ANY;
    }

    public int image() {
        kept.copy(now);
        hasImage = true;
        return now.houses;
    }

    public int undo() {
        if (!hasImage) {
            return STATE;
        }
        now.copy(kept);
        return now.houses;
    }

    public int act(int house, int act, int x) {
        acts.forget();
        if (!now.hasHouse(house) || !isUpTo(act, Acts.TELLS)) {
            return 0;
        }
        return acts.start(now, house, act, x);
    }

    public int trace(int i) {
        return acts.begun(i);
    }

    public int taken(int house, int k) {
        if (!isUpTo(k, LAST_KIND)) {
            return BAD;
        }
        if (!now.hasHouse(house)) {
            return NOTHING;
        }
        int kind = now.kinds[house];
        return isUnder(kind, k) ? kind : CAST;
    }

    public int count(int what) {
        switch (what) {
            case 0: return now.houses;
            case 1: return now.folks;
            case 2: return towns.size;
            case 3: return now.plan.size;
            case 4: return now.watched.size;
            case 5: return now.visits.size;
            case 6: return text.length;
            case 7: return acts.ran;
            default: return BAD;
        }
    }

    public int tape(int tape, int sort, int n) {
        if (!isUpTo(tape, MOST_TAPES - 1)) {
            return NONE;
        }
        if (sort == NONE) {
            return tapes.become(tape, NONE, 0);
        }
        if (!isUpTo(sort, Tapes.BOOLEANS) || n > Tapes.MOST_ITEMS) {
            return BAD;
        }
        if (n < 0) {
            return SIZE;
        }
        return tapes.become(tape, sort, n);
    }

    public int item(int tape, int i, long v) {
        if (!isUpTo(tape, MOST_TAPES - 1)) {
            return NONE;
        }
        if (tapes.sorts[tape] == NONE) {
            return NOTHING;
        }
        if (!isUpTo(i, tapes.sizes[tape] - 1)) {
            return PLACE;
        }
        tapes.items[tape][i] = Tapes.cut(tapes.sorts[tape], v);
        return 1;
    }

    public long read(int tape, int i) {
        if (!isUpTo(tape, MOST_TAPES - 1) || !isUpTo(i, tapes.sizes[tape] - 1)) {
            return NO;
        }
        return tapes.items[tape][i];
    }

    public int shift(int tape, int i, int other, int j, int n) {
        if (!isUpTo(tape, MOST_TAPES - 1) || !isUpTo(other, MOST_TAPES - 1)) {
            return NONE;
        }
        if (tapes.sorts[tape] == NONE || tapes.sorts[other] == NONE) {
            return NOTHING;
        }
        if (tapes.sorts[tape] != tapes.sorts[other]) {
            return CAST;
        }
        if (n < 0 || !isUpTo(i, tapes.sizes[tape] - n) || !isUpTo(j, tapes.sizes[other] - n)) {
            return PLACE;
        }
        System.arraycopy(tapes.items[tape], i, tapes.items[other], j, n);
        return n;
    }

    // ---- what several of them need

    private int paceAt(int house, int what) {
        if (what >= 10 && now.hasFolk(what - 10)) {
            towns.weigh(now, what - 10, house, now.grains[house]);
            return towns.slow;
        }
        if (what >= 20 && now.hasFolk(what - 20)) {
            towns.weigh(now, what - 20, house, now.grains[house]);
            return towns.far;
        }
        return NONE;
    }

    private static boolean isUpTo(int n, int last) {
        return n >= 0 && n <= last;
    }

    private static int bit(int bits, int place) {
        return bits >> place & 1;
    }

    private static int withBit(int bits, int place, boolean is) {
        return is ? bits | 1 << place : bits & ~(1 << place);
    }

    /** Whether a kind is the one looked for, or has it somewhere above. */
    private static boolean isUnder(int kind, int lookedFor) {
        int at = kind;
        for (int steps = 0; steps <= LAST_KIND && isUpTo(at, LAST_KIND); steps++) {
            if (at == lookedFor) {
                return true;
            }
            at = ABOVE[at];
        }
        return false;
    }

    private static int roundedUp(int work, int by) {
        return by > 0 ? (work + by - 1) / by : 0;
    }

    /** Above (part 0) or below the line of a fraction in lowest terms. */
    private static long sideOfFraction(long above, long below, int part) {
        long common = above;
        long rest = below;
        for (int steps = 0; steps < 100 && rest != 0; steps++) {
            long left = common % rest;
            common = rest;
            rest = left;
        }
        long side = part == 0 ? above : below;
        return common > 0 ? side / common : side;
    }

    /** A short list of rows, two numbers each, that is told by hand. */
    private static final class Rows {
        final int[] firsts;
        final int[] seconds;
        int size;

        Rows(int most) {
            int room = Math.max(most, 0);
            firsts = new int[room];
            seconds = new int[room];
        }

        int add(int first, int second) {
            if (size >= firsts.length) {
                return FULL;
            }
            firsts[size] = first;
            seconds[size] = second;
            size++;
            return size;
        }

        int empty() {
            size = 0;
            return size;
        }

        void copy(Rows from) {
            size = Math.min(from.size, firsts.length);
            System.arraycopy(from.firsts, 0, firsts, 0, size);
            System.arraycopy(from.seconds, 0, seconds, 0, size);
        }
    }

    /** Houses, folk, and what was told of them: all that an image holds. */
    private static final class Street {
        static final int FULL_ROW = 15;

        int houses;
        final int[] kinds = new int[MOST_HOUSES];
        final int[] numbers = new int[MOST_HOUSES];
        final int[] grains = new int[MOST_HOUSES];
        final int[] asked = new int[MOST_HOUSES];
        final int[] rows = new int[MOST_HOUSES];

        int folks;
        final int[] sacks = new int[MOST_FOLK];
        final int[] purses = new int[MOST_FOLK];
        final int[] quicknesses = new int[MOST_FOLK];

        final Rows plan = new Rows(8);
        final Rows watched = new Rows(8);
        final Rows visits = new Rows(12);
        int held = NONE;

        boolean hasHouse(int house) {
            return house >= 0 && house < houses;
        }

        boolean hasFolk(int one) {
            return one >= 0 && one < folks;
        }

        int build(int kind, int v, int grain) {
            if (houses >= MOST_HOUSES) {
                return FULL;
            }
            int house = houses;
            houses++;
            settle(house, kind, v);
            grains[house] = grain;
            asked[house] = 0;
            return house;
        }

        void settle(int house, int kind, int v) {
            kinds[house] = kind;
            numbers[house] = v;
            rows[house] = FULL_ROW;
        }

        int wake(int sack, int coins, int quickness) {
            if (folks >= MOST_FOLK) {
                return FULL;
            }
            int one = folks;
            folks++;
            sacks[one] = sack;
            purses[one] = coins;
            quicknesses[one] = quickness;
            return one;
        }

        void copy(Street from) {
            houses = from.houses;
            System.arraycopy(from.kinds, 0, kinds, 0, MOST_HOUSES);
            System.arraycopy(from.numbers, 0, numbers, 0, MOST_HOUSES);
            System.arraycopy(from.grains, 0, grains, 0, MOST_HOUSES);
            System.arraycopy(from.asked, 0, asked, 0, MOST_HOUSES);
            System.arraycopy(from.rows, 0, rows, 0, MOST_HOUSES);
            folks = from.folks;
            System.arraycopy(from.sacks, 0, sacks, 0, MOST_FOLK);
            System.arraycopy(from.purses, 0, purses, 0, MOST_FOLK);
            System.arraycopy(from.quicknesses, 0, quicknesses, 0, MOST_FOLK);
            plan.copy(from.plan);
            watched.copy(from.watched);
            visits.copy(from.visits);
            held = from.held;
        }
    }

    /**
     * What a town's text becomes: each clause as its tests and signs behind one another, the
     * operands first, and then its word. A token is one of these times 100, and a number. Below
     * NOT stand the tests: a letter's place times 3, and a sign's place.
     */
    private static final class Token {
        static final String LETTERS = "fhkvgc", SIGNS = "<=>", DIGITS = "0123456789";
        static final int ALL_LETTERS = 6, ALL_SIGNS = 3;
        static final int NOT = 18, AND = 19, OR = 20, COUNT = 21, WALK = 22;
        static final int TIMES = 100;
    }

    /** The text of a town to be, read once from the left on. */
    private static final class Text {
        private static final int MOST_CLAUSES = 10, MOST_NESTED = 4;
        static final int USUAL_DAWN = 60;

        private final byte[] signs = new byte[MOST_SIGNS];
        int length;
        private int at;
        /** The place of the fault, or NONE. */
        int fault = NONE;
        private int[] tokens;
        int noted;
        int dawn;

        int add(int sign) {
            if (length >= MOST_SIGNS) {
                return FULL;
            }
            signs[length] = (byte) sign;
            length++;
            return length;
        }

        void compile(int[] into) {
            at = 0;
            fault = NONE;
            tokens = into;
            noted = 0;
            dawn = USUAL_DAWN;
            clause();
            for (int clauses = 1; clauses < MOST_CLAUSES && take(';'); clauses++) {
                clause();
            }
            if (fault == NONE && at < length) {
                fault = at;
            }
        }

        private void clause() {
            int what = take('c') ? Token.COUNT : take('w') ? Token.WALK : NONE;
            word(what == Token.COUNT ? "ount " : what == Token.WALK ? "alk " : "dawn ");
            int n = number();
            if (what == NONE) {
                dawn = n;
                return;
            }
            word(" ");
            either(0);
            note(what, n);
        }

        /** Reads parts with & and | between; & binds them first. */
        private void either(int nested) {
            boolean and = false;
            boolean or = false;
            for (int parts = 0; parts < MOST_SIGNS; parts++) {
                part(nested);
                if (and) {
                    note(Token.AND, 0);
                }
                and = take('&');
                if (and) {
                    continue;
                }
                if (or) {
                    note(Token.OR, 0);
                }
                or = take('|');
                if (!or) {
                    return;
                }
            }
        }

        private void part(int nested) {
            boolean mayNest = nested < MOST_NESTED;
            if (mayNest && take('!')) {
                part(nested + 1);
                note(Token.NOT, 0);
            } else if (mayNest && take('(')) {
                either(nested + 1);
                word(")");
            } else {
                int letter = choice(Token.LETTERS);
                int sign = choice(Token.SIGNS);
                note(letter * Token.ALL_SIGNS + sign, number());
            }
        }

        /** One digit or two. */
        private int number() {
            int n = choice(Token.DIGITS);
            if (at < length && signs[at] >= '0' && signs[at] <= '9') {
                n = n * 10 + choice(Token.DIGITS);
            }
            return n;
        }

        private void word(String due) {
            for (int i = 0; i < due.length(); i++) {
                if (!take(due.charAt(i)) && fault == NONE) {
                    fault = at;
                }
            }
        }

        /** Which of these signs comes next; it is a fault if none does. */
        private int choice(String among) {
            int found = fault == NONE && at < length ? among.indexOf((char) signs[at]) : NONE;
            if (found >= 0) {
                at++;
                return found;
            }
            fault = fault == NONE ? at : fault;
            return 0;
        }

        private boolean take(char sign) {
            boolean is = fault == NONE && at < length && signs[at] == sign;
            if (is) {
                at++;
            }
            return is;
        }

        private void note(int what, int n) {
            if (fault == NONE && tokens != null && noted < tokens.length) {
                tokens[noted] = what * Token.TIMES + n;
                noted++;
            }
        }
    }

    /** The towns that were read, and how long one counts and walks by one of them. */
    private static final class Towns {
        private static final int USUAL_SLOW = 5, USUAL_FAR = 3;

        final int[][] tokens = new int[MOST_TOWNS][MOST_SIGNS];
        private final int[] lengths = new int[MOST_TOWNS];
        private final int[] dawns = new int[MOST_TOWNS];
        int size;
        /** What the letters of tests stand for at the moment. */
        private final int[] letters = new int[Token.ALL_LETTERS];
        int slow;
        int far;

        int add(int length, int dawn) {
            if (size >= MOST_TOWNS) {
                return FULL;
            }
            int town = size;
            lengths[town] = length;
            dawns[town] = dawn;
            size++;
            return town;
        }

        int dawnOf(int town) {
            return isUpTo(town, size - 1) ? dawns[town] : Text.USUAL_DAWN;
        }

        /** Finds slow and far of one at a house, if that had this grain. */
        void weigh(Street street, int one, int house, int grain) {
            letters[0] = one;
            letters[1] = house;
            letters[2] = street.kinds[house];
            letters[3] = street.numbers[house];
            letters[4] = grain / 10;
            letters[5] = street.purses[one];
            int town = street.held;
            int length = isUpTo(town, size - 1) ? lengths[town] : 0;
            boolean counts = false;
            boolean walks = false;
            // one bit each for what is known to hold or not, the newest lowest
            int known = 0;
            slow = 0;
            far = 0;
            for (int i = 0; i < length; i++) {
                int what = tokens[town][i] / Token.TIMES;
                int n = tokens[town][i] % Token.TIMES;
                switch (what) {
                    case Token.NOT:
                        known = known ^ 1;
                        break;
                    case Token.AND:
                        known = (known >> 1) & (known | ~1);
                        break;
                    case Token.OR:
                        known = (known >> 1) | (known & 1);
                        break;
                    case Token.COUNT:
                        counts = true;
                        slow += (known & 1) * n;
                        known = known >> 1;
                        break;
                    case Token.WALK:
                        walks = true;
                        far += (known & 1) * n;
                        known = known >> 1;
                        break;
                    default:
                        known = (known << 1) | (holds(what, n) ? 1 : 0);
                        break;
                }
            }
            slow = counts ? slow : USUAL_SLOW;
            far = walks ? far : USUAL_FAR;
        }

        private boolean holds(int test, int n) {
            int letter = test / Token.ALL_SIGNS;
            int value = letter >= 0 && letter < letters.length ? letters[letter] : 0;
            switch (test % Token.ALL_SIGNS) {
                case 0: return value < n;
                case 1: return value == n;
                default: return value > n;
            }
        }
    }

    /** One night of one of the folk; begun anew for each that is asked about. */
    private static final class Night {
        private final Street street;
        private final Towns towns;
        private final int[] fars = new int[MOST_HOUSES];
        private final int[] countings = new int[MOST_HOUSES];
        private int one;
        private int place;
        private int counted;
        int minute;
        int coins;
        int in;

        Night(Street street, Towns towns) {
            this.street = street;
            this.towns = towns;
        }

        /** What a visit there takes of this one: to be found ahead of reach(), once for many nights. */
        void measure(int folk, int house, int grain) {
            towns.weigh(street, folk, house, grain);
            fars[house] = towns.far;
            countings[house] = roundedUp(towns.slow * grain, street.quicknesses[folk]);
        }

        void begin(int folk, int start) {
            one = folk;
            minute = start;
            place = street.sacks[folk];
            coins = street.purses[folk];
            in = 0;
            counted = 0;
        }

        /** One visit: whether it comes in. */
        boolean reach(int house) {
            minute += fars[house] * Math.abs(house - place);
            if (bit(counted, house) == 0) {
                minute += countings[house];
                counted = withBit(counted, house, true);
            }
            place = house;
            boolean is = minute < towns.dawnOf(street.held) && isLet(house);
            if (is) {
                in = withBit(in, house, true);
            }
            return is;
        }

        /** Whether one is let in at a house at a minute, before it has been in anywhere. */
        boolean isLetIn(int folk, int house, int atMinute) {
            begin(folk, atMinute);
            return minute < towns.dawnOf(street.held) && isLet(house);
        }

        private boolean isLet(int house) {
            if (bit(street.asked[house], one) == 1) {
                return true;
            }
            int v = street.numbers[house];
            switch (street.kinds[house]) {
                case LONELY: return isLate(v);
                case PROUD: return isKnown(house, v);
                case LANDLORD: return pays(v);
                case SAD: return v > 7 || isLate(v);
                case VAIN: return coins > 0 && isKnown(house, v);
                case TOLD: return bit(street.rows[house], minute % 4) == 1 && pays(v);
                default: return false;
            }
        }

        private boolean isLate(int v) {
            return minute >= 5 * v;
        }

        private boolean isKnown(int house, int v) {
            return Integer.bitCount(withBit(in, house, false)) >= v % 3;
        }

        private boolean pays(int v) {
            boolean can = coins >= v;
            if (can) {
                coins -= v;
            }
            return can;
        }
    }

    /** The best way round some houses that was found so far. */
    private static final class Round {
        private static final int MOST_ORDERS = 120;

        final int[] row = new int[MOST_IN_SET];
        private final int[] order = new int[MOST_IN_SET];
        int size;
        int ins;
        int minute;

        /** Takes the houses of a set in the first of their orders. */
        void start(int set) {
            size = 0;
            ins = NONE;
            minute = 0;
            for (int house = 0; house < MOST_HOUSES && size < order.length; house++) {
                if (bit(set, house) == 1) {
                    order[size] = house;
                    size++;
                }
            }
        }

        /** Keeps the present order if it is better than the best before it. */
        void weigh(int insNow, int minuteNow) {
            if (insNow > ins || insNow == ins && minuteNow < minute) {
                ins = insNow;
                minute = minuteNow;
                System.arraycopy(order, 0, row, 0, size);
            }
        }

        /** Goes on to the next order as a row; false if there is none. */
        boolean advance() {
            int from = size - 2;
            while (from >= 0 && order[from] > order[from + 1]) {
                from--;
            }
            if (from < 0) {
                return false;
            }
            int to = size - 1;
            while (to > from && order[to] < order[from]) {
                to--;
            }
            swap(from, to);
            for (int left = from + 1, right = size - 1; left < right; left++, right--) {
                swap(left, right);
            }
            return true;
        }

        private void swap(int one, int other) {
            int was = order[one];
            order[one] = order[other];
            order[other] = was;
        }
    }

    /** What is asked about nights that nobody sees. */
    private static final class Questions {
        static final int STARTS = 60;
        private static final int LAST_START = 98;

        private final Street street;
        private final Towns towns;
        final Night night;
        private final Round best = new Round();

        Questions(Street street, Towns towns) {
            this.street = street;
            this.towns = towns;
            night = new Night(street, towns);
        }

        /** Whether one comes in by one visit over this grain; the night then tells more of it. */
        boolean comesIn(int one, int house, int grain) {
            night.measure(one, house, grain);
            night.begin(one, 0);
            return night.reach(house);
        }

        /** One goes the way told: the first place at which it did not come in. */
        int followPlan(int one) {
            int stopped = NOT_ANY;
            night.begin(one, 0);
            for (int i = 0; i < street.plan.size; i++) {
                int house = street.plan.firsts[i];
                night.measure(one, house, street.grains[house]);
                if (!night.reach(house) && stopped == NOT_ANY) {
                    stopped = i;
                }
            }
            return stopped;
        }

        Round bestRound(int one, int set) {
            best.start(set);
            for (int i = 0; i < best.size; i++) {
                int house = best.order[i];
                night.measure(one, house, street.grains[house]);
            }
            boolean another = true;
            for (int tried = 0; tried < Round.MOST_ORDERS && another; tried++) {
                night.begin(one, 0);
                for (int i = 0; i < best.size; i++) {
                    night.reach(best.order[i]);
                }
                best.weigh(Integer.bitCount(night.in), night.minute);
                another = best.advance();
            }
            return best;
        }

        int leastGrain(int one, int house) {
            for (int grain = 0; grain <= LAST_GRAIN; grain++) {
                if (!comesIn(one, house, grain)) {
                    return grain;
                }
            }
            return NOT_ANY;
        }

        /** The first house by which, with n more grain there, the pairs are fewest. */
        int houseToStrew(int n) {
            int found = NOT_ANY;
            int mostSaved = NONE;
            for (int house = 0; house < street.houses; house++) {
                int saved = insAt(house, 0) - insAt(house, n);
                // more grain may let in more, so the first one stands even if it saves nothing
                if (found == NOT_ANY || saved > mostSaved) {
                    found = house;
                    mostSaved = saved;
                }
            }
            return found;
        }

        int pairsAfter(int strewn, int n) {
            int pairs = 0;
            for (int house = 0; house < street.houses; house++) {
                pairs += insAt(house, house == strewn ? n : 0);
            }
            return pairs;
        }

        /** How many of the folk come in at a house that has so much more grain. */
        private int insAt(int house, int extra) {
            int ins = 0;
            int grain = Math.min(street.grains[house] + extra, LAST_GRAIN);
            for (int one = 0; one < street.folks; one++) {
                if (comesIn(one, house, grain)) {
                    ins++;
                }
            }
            return ins;
        }

        /** The minute at which two who count together at a house are done. */
        int doneTogether(int one, int other, int house) {
            int grain = street.grains[house];
            int arrival = Math.max(walk(one, house), walk(other, house));
            towns.weigh(street, one, house, grain);
            int quickness = street.quicknesses[one] + street.quicknesses[other];
            return arrival + roundedUp(towns.slow * grain, quickness);
        }

        private int walk(int one, int house) {
            towns.weigh(street, one, house, street.grains[house]);
            return towns.far * Math.abs(house - street.sacks[one]);
        }

        /** Those of the folk of whom all is so that was watched. */
        int whoBits() {
            int who = 0;
            for (int one = 0; one < street.folks; one++) {
                boolean is = true;
                for (int i = 0; i < street.watched.size && is; i++) {
                    int house = street.watched.firsts[i];
                    boolean in = comesIn(one, house, street.grains[house]);
                    is = in == (street.watched.seconds[i] == 1);
                }
                who = withBit(who, one, is);
            }
            return who;
        }

        int houseToWatch() {
            int who = whoBits();
            int found = NOT_ANY;
            int leastApart = MOST_FOLK + 1;
            for (int house = 0; house < street.houses && who != 0; house++) {
                int apart = apartAt(house, who);
                if (apart < leastApart) {
                    leastApart = apart;
                    found = house;
                }
            }
            return found;
        }

        /** How far apart are those of some who come in at a house and those who do not. */
        private int apartAt(int house, int who) {
            int balance = 0;
            for (int one = 0; one < street.folks; one++) {
                if (bit(who, one) == 1) {
                    balance += comesIn(one, house, street.grains[house]) ? 1 : -1;
                }
            }
            return Math.abs(balance);
        }

        int leastStart(int one, int house) {
            night.measure(one, house, street.grains[house]);
            for (int start = 0; start <= LAST_START; start++) {
                night.begin(one, start);
                if (night.reach(house)) {
                    return start;
                }
            }
            return NOT_ANY;
        }

        /** How many of the minutes 0 .. 59 are good for one to begin with. */
        int goodStarts(int one, int house) {
            int good = 0;
            night.measure(one, house, street.grains[house]);
            for (int start = 0; start < STARTS; start++) {
                night.begin(one, start);
                if (night.reach(house)) {
                    good++;
                }
            }
            return good;
        }

        int minutesOfAll(int house) {
            int minutes = 0;
            for (int one = 0; one < street.folks; one++) {
                comesIn(one, house, street.grains[house]);
                minutes += night.minute;
            }
            return minutes;
        }

        /** The first one in the book who does not come in where it says. */
        int firstKeptOut() {
            for (int i = 0; i < street.visits.size; i++) {
                int one = street.visits.firsts[i];
                int house = street.visits.seconds[i];
                if (!comesIn(one, house, street.grains[house])) {
                    return one;
                }
            }
            return NOT_ANY;
        }
    }

    /** What a house does by its kind, and the trace of it. */
    private static final class Acts {
        private static final int ASKS = 0, OPENS = 1;
        static final int TELLS = 2;
        private static final int ACTS = 3, MOST_KEPT = 20, MOST_DEEP = 20;
        /** By kinds: the bodies for asks, opens, tells; 0: it has none of its own. */
        private static final int[] BODIES = {
            10, 11, 12,
            0, 20, 0,
            30, 0, 0,
            0, 0, 40,
            50, 51, 0,
            0, 0, 60,
            71, 70, 0
        };

        private final int[] begun = new int[MOST_KEPT];
        int ran;
        private int number;
        private int kind;
        private int v;

        void forget() {
            ran = 0;
        }

        int begun(int i) {
            return isUpTo(i, Math.min(ran, MOST_KEPT) - 1) ? begun[i] : NONE;
        }

        int start(Street street, int house, int act, int x) {
            number = house;
            kind = street.kinds[house];
            v = street.numbers[house];
            return call(act, kind, x, 0);
        }

        /** Runs the body of a kind, or of the next above that has one. */
        private int call(int act, int from, int x, int deep) {
            int owner = from;
            for (int steps = 0; steps <= LAST_KIND && isUpTo(owner, LAST_KIND); steps++) {
                int body = BODIES[owner * ACTS + act];
                if (body != 0) {
                    return deep < MOST_DEEP ? run(body, ABOVE[owner], x, deep + 1) : 0;
                }
                owner = ABOVE[owner];
            }
            return 0;
        }

        /** One body; above is the kind at which its super calls begin. */
        private int run(int body, int above, int x, int deep) {
            note(body);
            switch (body) {
                case 10: return x + number;
                case 11: return call(ASKS, kind, x, deep) - v;
                case 12: return call(OPENS, kind, x, deep) * 2;
                case 20: return call(OPENS, above, x, deep) ^ 6;
                case 30: return call(ASKS, above, x * 3, deep);
                case 40: return call(TELLS, above, x, deep) + call(OPENS, kind, 1, deep);
                case 50: return -call(ASKS, above, x, deep);
                case 51: return call(OPENS, above, x + 1, deep);
                case 60: return call(TELLS, above, x - number, deep);
                case 70: return call(OPENS, above, x, deep) + call(ASKS, above, 2, deep);
                case 71: return call(ASKS, above, x, deep) ^ v;
                default: return 0;
            }
        }

        private void note(int body) {
            if (ran < MOST_KEPT) {
                begun[ran] = body;
            }
            ran++;
        }
    }

    /** Rows of numbers of one sort each. */
    private static final class Tapes {
        static final int BYTES = 0;
        private static final int SHORTS = 1, INTS = 2;
        static final int BOOLEANS = 4;
        static final int MOST_ITEMS = 60;

        final long[][] items = new long[MOST_TAPES][MOST_ITEMS];
        final int[] sizes = new int[MOST_TAPES];
        /** NONE: the tape holds nothing. */
        final int[] sorts = {NONE, NONE, NONE, NONE, NONE, NONE};

        int become(int tape, int sort, int n) {
            sorts[tape] = sort;
            sizes[tape] = n;
            Arrays.fill(items[tape], 0L);
            return 1;
        }

        static long cut(int sort, long v) {
            switch (sort) {
                case BYTES: return (byte) v;
                case SHORTS: return (short) v;
                case INTS: return (int) v;
                case BOOLEANS: return v != 0 ? 1 : 0;
                default: return v;
            }
        }
    }
}
