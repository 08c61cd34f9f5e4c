/** A borough that is rated by the sigh: who lives where, what is let out in a night, and what each house pays. */
public final class RatedBySighs {
    public static final int NONE = -1, BAD = -2, STATE = -3, FULL = -4;
    public static final long NO = -4611686018427387904L;

    private static final int NOTHING = -11, OUTSIDE = -12, UNLIKE = -13, BELOW_ZERO = -14;
    private static final int NONE_SUCH = -100, NO_COST = -100000, NO_MOOD = -100, FAULT = -100;

    private static final int HOUSES = 5, HOURS = 6, PEOPLE = 8, KINDS = 6, OUTS = 64;
    private static final int LAST_NIGHT = 999, MOST_PAID = 999999999, MOST_DUE = 9999;
    private static final int LEAST_MOOD = -20, MOST_MOOD = 20, MOST_NUMBER = 9;
    private static final int NOWHERE = -1;

    private static final int TENANT = 0, WIDOW = 1, POET = 2, AUNT = 3, LOVER = 4, FOOL = 5;
    private static final int[] UNDER = {NONE, TENANT, TENANT, WIDOW, POET, TENANT};

    // What set() and told() number: the bounds below stand in this order.
    private static final int NIGHT = 0, NUMBER = 1, HOUSE = 2, MOOD = 3, OUT = 4, KIND = 5, EXEMPT = 6;
    private static final int[] LOWEST = {0, 0, 0, LEAST_MOOD, 0, 0};
    private static final int[] HIGHEST = {LAST_NIGHT, MOST_NUMBER, HOUSES - 1, MOST_MOOD, OUTS - 1, KINDS - 1};
    private static final int MOOD_IN_HOUR = 10, SIGHS_IN_HOUR = 20;

    private static final int TEXTS = 6, TAPE = 160, MOST_OPEN = 5, MOST_DIGITS = 4, NAMES = 6;
    private static final int SIGHS_PART = 0, MOODS_PART = 1, PAYS_PART = 2, PARTS = 3;
    private static final String FIRST_TEXT = "sighs 5 - mood ; moods 0 ; pays mood ;";

    // Tokens below 0 stand in a text's code as they are; there, 0 and more is a number itself.
    private static final int A_NUMBER = 0, SIGHS_KEY = 1, MOODS_KEY = 2, PAYS_KEY = 3;
    private static final int OPEN = 4, CLOSE = 5, STOP = 6, END = 7, WRONG = 8;
    private static final int MOOD_NAME = -1, HOUR_NAME = -2, NUMBER_NAME = -3;
    private static final int OTHERS_NAME = -4, HOUSE_NAME = -5, FOOLS_NAME = -6;
    private static final int NEGATE = -7, NOT = -8, OR = -9, AND = -10, LESS = -11, EQUAL = -12;
    private static final int PLUS = -13, MINUS = -14, TIMES = -15;

    private static final int SHEETS = 4, MOST_ITEMS = 40;
    private static final int MISSING = -1, BYTES = 0, SHORTS = 1, INTS = 2;

    private static final int MOST_SEEDS = 20, MOODS_DRAWN = 41;

    private final Evening evening = new Evening();
    private final Borough borough = evening.borough;
    private final Texts texts = evening.texts;
    private final Reader reader = new Reader();
    private final Borough kept = new Borough();
    private boolean hasImage = false;
    private final Best best = new Best();
    private final Sheet[] sheets = new Sheet[SHEETS];
    private final int[] moodsAside = new int[PEOPLE];

    public RatedBySighs() {
        for (int i = 0; i < SHEETS; i++) {
            sheets[i] = new Sheet();
        }
        for (int i = 0; i < FIRST_TEXT.length(); i++) {
            reader.append(FIRST_TEXT.charAt(i));
        }
        // Read here and not where the texts are made: so the calls stay eight deep.
        reader.takesTape();
        texts.keep(reader);
    }

    // ---- people

    public int set(int what, int of, int v) {
        if (what > OUT || !mayBe(what, v)) {
            return NONE_SUCH;
        }
        if (what == NIGHT) {
            int was = borough.night;
            borough.night = v;
            return was;
        }
        if (!borough.has(of)) {
            return NONE_SUCH;
        }
        Person one = borough.people[of];
        int was = one.part(what);
        one.become(what, v);
        return was;
    }

    public int tenant(int kind, int number, int house) {
        if (!mayBe(KIND, kind) || !mayBe(NUMBER, number) || !mayBe(HOUSE, house)) {
            return BAD;
        }
        if (borough.size >= PEOPLE) {
            return FULL;
        }
        int one = borough.size;
        borough.people[one].come(kind, number, house);
        borough.size++;
        return one;
    }

    public int told(int of, int what) {
        if (what == NIGHT) {
            return borough.night;
        }
        if (!borough.has(of)) {
            return NONE_SUCH;
        }
        Person one = borough.people[of];
        if (what >= NUMBER && what <= KIND) {
            return one.part(what);
        }
        if (what == EXEMPT) {
            return one.isExempt(borough.night) ? 1 : 0;
        }
        if (what >= MOOD_IN_HOUR && what < MOOD_IN_HOUR + HOURS) {
            evening.play(one.house);
            return evening.moods[what - MOOD_IN_HOUR][of];
        }
        if (what >= SIGHS_IN_HOUR && what < SIGHS_IN_HOUR + HOURS) {
            evening.play(one.house);
            return evening.sighs[what - SIGHS_IN_HOUR][of];
        }
        return NONE_SUCH;
    }

    // ---- texts

    public int feed(int letter) {
        if (letter < 0 || letter > 255) {
            return BAD;
        }
        return reader.append(letter) ? reader.size : FULL;
    }

    public int text() {
        if (texts.size >= TEXTS) {
            return FULL;
        }
        return reader.takesTape() ? texts.keep(reader) : FAULT - reader.start;
    }

    public int force(int text) {
        if (text < 0 || text >= texts.size) {
            return BAD;
        }
        int was = borough.rule;
        borough.rule = text;
        return was;
    }

    // ---- nights

    public int reed(int house, int hour) {
        if (!mayBe(HOUSE, house) || hour < 0 || hour >= HOURS) {
            return BAD;
        }
        evening.play(house);
        return evening.reeds[hour];
    }

    public int due(int house) {
        if (house == NONE) {
            return evening.playAll();
        }
        return mayBe(HOUSE, house) ? evening.play(house) : BAD;
    }

    public int night() {
        if (borough.night >= LAST_NIGHT) {
            return STATE;
        }
        int all = evening.playAll();
        borough.paid = Math.min(MOST_PAID, borough.paid + all);
        borough.night++;
        return all;
    }

    public int loudest(int what) {
        if (!isZeroOrOne(what)) {
            return BAD;
        }
        int where = 0;
        int most = -1;
        for (int house = 0; house < HOUSES; house++) {
            evening.play(house);
            for (int hour = 0; hour < HOURS; hour++) {
                if (evening.reeds[hour] > most) {
                    most = evening.reeds[hour];
                    where = 10 * house + hour;
                }
            }
        }
        return what == 0 ? where : most;
    }

    public int cost(int one) {
        if (!borough.has(one)) {
            return NO_COST;
        }
        return evening.playAll() - allIf(one, HOUSE, NOWHERE);
    }

    // ---- what would be best

    public int cheer(int what) {
        return isZeroOrOne(what) ? bestMove(what, true) : BAD;
    }

    public int cart(int what) {
        if (!isZeroOrOne(what)) {
            return BAD;
        }
        best.begin(evening.playAll());
        for (int one = 0; one < borough.size; one++) {
            int out = borough.people[one].out;
            for (int hour = 0; hour < HOURS; hour++) {
                best.offer(10 * one + hour, allIf(one, OUT, out | 1 << hour));
            }
        }
        return best.answer(what);
    }

    public int few(int one, int k) {
        if (!borough.has(one) || k < 0 || k > MOST_DUE) {
            return BAD;
        }
        for (int hours = 0; hours <= HOURS; hours++) {
            for (int out = 0; out < OUTS; out++) {
                if (Integer.bitCount(out) == hours && dueIfOut(one, out) <= k) {
                    return out;
                }
            }
        }
        return NONE;
    }

    public int move(int what) {
        return isZeroOrOne(what) ? bestMove(what, false) : BAD;
    }

    public int change(int what) {
        if (!isZeroOrOne(what)) {
            return BAD;
        }
        best.begin(evening.playAll());
        for (int one = 0; one < borough.size; one++) {
            for (int other = one + 1; other < borough.size; other++) {
                changeHouses(one, other);
                best.offer(10 * one + other, evening.playAll());
                changeHouses(one, other);
            }
        }
        return best.answer(what);
    }

    // ---- reeds that were told

    public int tells(int sheet, int house, int one, int what) {
        if (!isSheet(sheet) || !mayBe(HOUSE, house) || what < 0 || what > 8 || what > 1 && !borough.has(one)) {
            return BAD;
        }
        Sheet reeds = sheets[sheet];
        if (reeds.isMissing()) {
            return NOTHING;
        }
        if (reeds.size != HOURS) {
            return BAD;
        }
        switch (what) {
            case 0: return firstOther(reeds, house);
            case 1: return textsThatFit(reeds, house);
            case 2: return bitsThatFit(reeds, house, one, KIND);
            case 3: return bitsThatFit(reeds, house, one, NUMBER);
            case 4: return bitsThatFit(reeds, house, one, HOUSE);
            case 5: return howManyFit(reeds, house, one, MOOD);
            case 6: return leastThatFits(reeds, house, one, MOOD, NO_MOOD);
            case 7: return howManyFit(reeds, house, one, OUT);
            default: return leastThatFits(reeds, house, one, OUT, NONE);
        }
    }

    public int film(int sheet, int house) {
        if (!isSheet(sheet) || !mayBe(HOUSE, house)) {
            return BAD;
        }
        evening.play(house);
        sheets[sheet].becomeRow(INTS, HOURS);
        for (int hour = 0; hour < HOURS; hour++) {
            sheets[sheet].put(hour, evening.reeds[hour]);
        }
        return HOURS;
    }

    public int drawn(int seed) {
        return allDrawn(seed);
    }

    public long chance(int seed, int n, int part) {
        if (n < 1 || n > MOST_SEEDS || !isZeroOrOne(part)) {
            return NO;
        }
        int now = evening.playAll();
        int more = 0;
        for (int i = 0; i < n; i++) {
            if (allDrawn(seed + i) > now) {
                more++;
            }
        }
        int common = commonDivisor(more, n);
        return part == 0 ? more / common : n / common;
    }

    public int image() {
        kept.becomeLike(borough);
        hasImage = true;
        return borough.size;
    }

    public int back() {
        if (!hasImage) {
            return STATE;
        }
        borough.becomeLike(kept);
        return borough.size;
    }

    public int count(int what) {
        switch (what) {
            case 0: return borough.size;
            case 1: return borough.howManyFools();
            case 2: return borough.night;
            case 3: return borough.paid;
            case 4: return texts.size;
            case 5: return reader.size;
            case 6: return borough.rule;
            default: return BAD;
        }
    }

    // ---- the host

    public int sheet(int sheet, int sort, int n) {
        if (!isSheet(sheet) || sort != MISSING && !isSort(sort)) {
            return BAD;
        }
        if (sort == MISSING) {
            sheets[sheet].becomeRow(MISSING, 0);
            return 1;
        }
        if (n > MOST_ITEMS) {
            return BAD;
        }
        if (n < 0) {
            return BELOW_ZERO;
        }
        sheets[sheet].becomeRow(sort, n);
        return 1;
    }

    public int cell(int sheet, int i, int v) {
        if (!isSheet(sheet)) {
            return BAD;
        }
        if (sheets[sheet].isMissing()) {
            return NOTHING;
        }
        if (!sheets[sheet].holds(i, 1)) {
            return OUTSIDE;
        }
        sheets[sheet].put(i, v);
        return 1;
    }

    public int copy(int sheet, int i, int other, int j, int n) {
        if (!isSheet(sheet) || !isSheet(other)) {
            return BAD;
        }
        Sheet from = sheets[sheet];
        Sheet to = sheets[other];
        if (from.isMissing() || to.isMissing()) {
            return NOTHING;
        }
        if (from.sort != to.sort) {
            return UNLIKE;
        }
        if (!from.holds(i, n) || !to.holds(j, n)) {
            return OUTSIDE;
        }
        System.arraycopy(from.row, i, to.row, j, n);
        return n;
    }

    public int tenants(int sheet, int sort, int from, int n) {
        if (!isSheet(sheet) || !isSort(sort) || n < 0 || n > PEOPLE) {
            return BAD;
        }
        Sheet list = sheets[sheet];
        if (!list.isMissing() && list.sort != sort) {
            return UNLIKE;
        }
        if (list.isMissing()) {
            return NOTHING;
        }
        int came = 0;
        for (int i = 0; i < n; i++) {
            // holds() has let all triples ahead pass, so this sum can't wrap.
            int at = from + 3 * i;
            if (!list.holds(at, 3)) {
                return OUTSIDE;
            }
            if (tenant(list.row[at], list.row[at + 1], list.row[at + 2]) >= 0) {
                came++;
            }
        }
        return came;
    }

    public int taken(int one, int k) {
        if (!mayBe(KIND, k)) {
            return BAD;
        }
        if (!borough.has(one)) {
            return NOTHING;
        }
        return isUnder(borough.people[one].kind, k) ? borough.people[one].number : UNLIKE;
    }

    // ---- tests of numbers

    private static boolean mayBe(int what, int v) {
        return what >= NIGHT && what <= KIND && v >= LOWEST[what] && v <= HIGHEST[what];
    }

    private static boolean isZeroOrOne(int what) {
        return what == 0 || what == 1;
    }

    private static boolean isSheet(int sheet) {
        return sheet >= 0 && sheet < SHEETS;
    }

    private static boolean isSort(int sort) {
        return sort >= BYTES && sort <= INTS;
    }

    private static boolean isUnder(int kind, int k) {
        int at = kind;
        for (int i = 0; i < KINDS && at != NONE; i++) {
            if (at == k) {
                return true;
            }
            at = UNDER[at];
        }
        return false;
    }

    private static int bounded(int v, int least, int most) {
        return Math.max(least, Math.min(most, v));
    }

    private static int commonDivisor(int a, int b) {
        int greater = a;
        int rest = b;
        for (int i = 0; i < MOST_SEEDS && rest != 0; i++) {
            int next = greater % rest;
            greater = rest;
            rest = next;
        }
        return Math.max(1, greater);
    }

    // ---- what would be

    private int allIf(int one, int what, int v) {
        Person person = borough.people[one];
        int was = person.part(what);
        person.become(what, v);
        int all = evening.playAll();
        person.become(what, was);
        return all;
    }

    private int dueIfOut(int one, int out) {
        Person person = borough.people[one];
        int was = person.out;
        person.out = out;
        int due = evening.play(person.house);
        person.out = was;
        return due;
    }

    private int bestMove(int what, boolean foolsAlone) {
        best.begin(evening.playAll());
        for (int one = 0; one < borough.size; one++) {
            if (foolsAlone && borough.people[one].kind != FOOL) {
                continue;
            }
            for (int house = 0; house < HOUSES; house++) {
                best.offer(10 * one + house, allIf(one, HOUSE, house));
            }
        }
        return best.answer(what);
    }

    private void changeHouses(int one, int other) {
        int house = borough.people[one].house;
        borough.people[one].house = borough.people[other].house;
        borough.people[other].house = house;
    }

    private int allDrawn(int seed) {
        int z = seed;
        for (int i = 0; i < borough.size; i++) {
            moodsAside[i] = borough.people[i].mood;
            z = z * 1103515245 + 12345;
            borough.people[i].mood = (z >>> 9) % MOODS_DRAWN + LEAST_MOOD;
        }
        int all = evening.playAll();
        for (int i = 0; i < borough.size; i++) {
            borough.people[i].mood = moodsAside[i];
        }
        return all;
    }

    // ---- what was told, read back

    private int firstOther(Sheet reeds, int house) {
        evening.play(house);
        for (int hour = 0; hour < HOURS; hour++) {
            if (evening.reeds[hour] != reeds.row[hour]) {
                return hour;
            }
        }
        return NONE;
    }

    private boolean wouldFit(Sheet reeds, int house, int one, int what, int v) {
        Person person = borough.people[one];
        int was = person.part(what);
        person.become(what, v);
        boolean fits = firstOther(reeds, house) == NONE;
        person.become(what, was);
        return fits;
    }

    private int textsThatFit(Sheet reeds, int house) {
        int was = borough.rule;
        int bits = 0;
        for (int i = 0; i < texts.size; i++) {
            borough.rule = i;
            if (firstOther(reeds, house) == NONE) {
                bits |= 1 << i;
            }
        }
        borough.rule = was;
        return bits;
    }

    private int bitsThatFit(Sheet reeds, int house, int one, int what) {
        int bits = 0;
        for (int v = LOWEST[what]; v <= HIGHEST[what]; v++) {
            if (wouldFit(reeds, house, one, what, v)) {
                bits |= 1 << v;
            }
        }
        return bits;
    }

    private int howManyFit(Sheet reeds, int house, int one, int what) {
        int many = 0;
        for (int v = LOWEST[what]; v <= HIGHEST[what]; v++) {
            if (wouldFit(reeds, house, one, what, v)) {
                many++;
            }
        }
        return many;
    }

    private int leastThatFits(Sheet reeds, int house, int one, int what, int ifNone) {
        for (int v = LOWEST[what]; v <= HIGHEST[what]; v++) {
            if (wouldFit(reeds, house, one, what, v)) {
                return v;
            }
        }
        return ifNone;
    }

    private static final class Person {
        private int kind = TENANT, number = 0, house = 0, mood = 0, out = 0;

        private void come(int newKind, int newNumber, int newHouse) {
            kind = newKind;
            number = newNumber;
            house = newHouse;
            mood = 0;
            out = 0;
        }

        private void becomeLike(Person other) {
            kind = other.kind;
            number = other.number;
            house = other.house;
            mood = other.mood;
            out = other.out;
        }

        private int part(int what) {
            switch (what) {
                case NUMBER: return number;
                case HOUSE: return house;
                case MOOD: return mood;
                case OUT: return out;
                default: return kind;
            }
        }

        private void become(int what, int v) {
            switch (what) {
                case NUMBER: number = v; break;
                case HOUSE: house = v; break;
                case MOOD: mood = v; break;
                case OUT: out = v; break;
                default: kind = v; break;
            }
        }

        private boolean isOut(int hour) {
            return (out >> hour & 1) == 1;
        }

        private int sighsBy(int v, int moodThen, int night) {
            switch (kind) {
                case WIDOW: return widowSighs(v, night);
                case POET: return 3 * v;
                case AUNT: return widowSighs(v, night) / 2;
                case LOVER: return moodThen > 5 ? 0 : 3 * v;
                case FOOL: return 0;
                default: return v;
            }
        }

        private int widowSighs(int v, int night) {
            return night < 10 * number ? 0 : v;
        }

        private int swaysBy(int v, int fools) {
            switch (kind) {
                case WIDOW: return v;
                case POET: return 2 * (v + fools);
                case AUNT: return v - 1;
                case LOVER: return 2 * (v + fools) + number;
                case FOOL: return 0;
                default: return v + fools;
            }
        }

        private boolean isExempt(int night) {
            switch (kind) {
                case WIDOW: return number > 4;
                case AUNT: return number > 4 || night % 2 == 1;
                case FOOL: return true;
                default: return false;
            }
        }
    }

    /** All that an image keeps. */
    private static final class Borough {
        private final Person[] people = new Person[PEOPLE];
        private int size = 0, night = 0, paid = 0, rule = 0;

        private Borough() {
            for (int i = 0; i < PEOPLE; i++) {
                people[i] = new Person();
            }
        }

        private boolean has(int one) {
            return one >= 0 && one < size;
        }

        private int howManyFools() {
            int fools = 0;
            for (int i = 0; i < size; i++) {
                if (people[i].kind == FOOL) {
                    fools++;
                }
            }
            return fools;
        }

        private void becomeLike(Borough other) {
            size = other.size;
            night = other.night;
            paid = other.paid;
            rule = other.rule;
            for (int i = 0; i < size; i++) {
                people[i].becomeLike(other.people[i]);
            }
        }
    }

    /**
     * A night in thought, house by house: nothing in one house depends on another.
     * What it holds of moods, sighs and reeds is of the house that was played last.
     */
    private static final class Evening {
        private final Borough borough = new Borough();
        private final Texts texts = new Texts();
        private final int[][] moods = new int[HOURS + 1][PEOPLE];
        private final int[][] sighs = new int[HOURS][PEOPLE];
        private final int[] reeds = new int[HOURS];
        private int paysFor = 0, present = 0, foolsPresent = 0;

        private int playAll() {
            int all = 0;
            for (int house = 0; house < HOUSES; house++) {
                all += play(house);
            }
            return all;
        }

        private int play(int house) {
            int living = 0;
            for (int i = 0; i < borough.size; i++) {
                moods[0][i] = borough.people[i].mood;
                if (borough.people[i].house == house) {
                    living++;
                }
            }
            paysFor = 0;
            for (int hour = 0; hour < HOURS; hour++) {
                seeWhoIsPresent(house, hour);
                passHour(house, hour);
            }
            texts.mean(paysFor, HOURS, 0, living, house, 0);
            return bounded(texts.worth(borough.rule, PAYS_PART), 0, MOST_DUE);
        }

        private void seeWhoIsPresent(int house, int hour) {
            present = 0;
            foolsPresent = 0;
            for (int i = 0; i < borough.size; i++) {
                Person person = borough.people[i];
                if (person.house == house && !person.isOut(hour)) {
                    present++;
                    foolsPresent += person.kind == FOOL ? 1 : 0;
                }
            }
        }

        private void passHour(int house, int hour) {
            reeds[hour] = 0;
            for (int i = 0; i < borough.size; i++) {
                Person person = borough.people[i];
                if (person.house != house) {
                    continue;
                }
                int sway = 1;
                sighs[hour][i] = 0;
                if (!person.isOut(hour)) {
                    int fools = foolsPresent - (person.kind == FOOL ? 1 : 0);
                    texts.mean(moods[hour][i], hour, person.number, present - 1, house, fools);
                    int v = bounded(texts.worth(borough.rule, SIGHS_PART), 0, 99);
                    sighs[hour][i] = bounded(person.sighsBy(v, moods[hour][i], borough.night), 0, 999);
                    sway = person.swaysBy(bounded(texts.worth(borough.rule, MOODS_PART), -9, 9), fools);
                }
                moods[hour + 1][i] = bounded(moods[hour][i] + sway, LEAST_MOOD, MOST_MOOD);
                reeds[hour] += sighs[hour][i];
                paysFor += person.isExempt(borough.night) ? 0 : sighs[hour][i];
            }
        }
    }

    /** The texts, each as a row of code in which what belongs together stands ahead of what joins it. */
    private static final class Texts {
        private final int[][] code = new int[TEXTS][TAPE];
        private final int[][] starts = new int[TEXTS][PARTS + 1];
        private final int[] names = new int[NAMES];
        private final int[] stack = new int[TAPE];
        private int size = 0;

        private int keep(Reader reader) {
            if (size >= TEXTS) {
                return FULL;
            }
            System.arraycopy(reader.code, 0, code[size], 0, TAPE);
            System.arraycopy(reader.starts, 0, starts[size], 0, PARTS + 1);
            size++;
            return size - 1;
        }

        private void mean(int mood, int hour, int number, int others, int house, int fools) {
            names[-1 - MOOD_NAME] = mood;
            names[-1 - HOUR_NAME] = hour;
            names[-1 - NUMBER_NAME] = number;
            names[-1 - OTHERS_NAME] = others;
            names[-1 - HOUSE_NAME] = house;
            names[-1 - FOOLS_NAME] = fools;
        }

        private int worth(int number, int part) {
            int[] row = code[number];
            int top = -1;
            int end = starts[number][part + 1];
            // The reader writes no row that fails the tests of top: they stand so that no index goes untested.
            for (int at = starts[number][part]; at < end; at++) {
                int word = row[at];
                if (word >= FOOLS_NAME && top + 1 < TAPE) {
                    top++;
                    stack[top] = word >= 0 ? word : names[-1 - word];
                } else if (word == NEGATE && top >= 0) {
                    stack[top] = -stack[top];
                } else if (word == NOT && top >= 0) {
                    stack[top] = stack[top] == 0 ? 1 : 0;
                } else if (top >= 1) {
                    top--;
                    stack[top] = joined(word, stack[top], stack[top + 1]);
                }
            }
            return stack[0];
        }

        private static int joined(int word, int a, int b) {
            switch (word) {
                case OR: return a != 0 || b != 0 ? 1 : 0;
                case AND: return a != 0 && b != 0 ? 1 : 0;
                case LESS: return a < b ? 1 : 0;
                case EQUAL: return a == b ? 1 : 0;
                case PLUS: return a + b;
                case MINUS: return a - b;
                default: return a * b;
            }
        }
    }

    /**
     * Reads the tape. Where a method answers false, the token in hand is the one that can't stand there,
     * so its start is the place of the fault.
     */
    private static final class Reader {
        private final int[] tape = new int[TAPE];
        private int size = 0, at = 0;
        private int token = END, start = 0, value = 0;
        private final int[] code = new int[TAPE];
        private final int[] starts = new int[PARTS + 1];
        private int length = 0;

        private boolean append(int letter) {
            if (size >= TAPE) {
                return false;
            }
            tape[size] = letter;
            size++;
            return true;
        }

        private boolean takesTape() {
            at = 0;
            length = 0;
            next();
            boolean stands = true;
            for (int part = 0; part < PARTS && stands; part++) {
                starts[part] = length;
                stands = passes(SIGHS_KEY + part) && either(0) && passes(STOP);
            }
            starts[PARTS] = length;
            size = 0;
            return stands && token == END;
        }

        private boolean passes(int wanted) {
            if (token != wanted) {
                return false;
            }
            next();
            return true;
        }

        private void put(int word) {
            // Each token puts one word at most, so the row has room for all of a tape.
            if (length < TAPE) {
                code[length] = word;
                length++;
            }
        }

        private boolean either(int open) {
            boolean stands = both(open);
            for (int i = 0; i < TAPE && stands && token == OR; i++) {
                next();
                stands = both(open);
                put(OR);
            }
            return stands;
        }

        private boolean both(int open) {
            boolean stands = denied(open);
            for (int i = 0; i < TAPE && stands && token == AND; i++) {
                next();
                stands = denied(open);
                put(AND);
            }
            return stands;
        }

        private boolean denied(int open) {
            if (token == NOT) {
                return prefixed(NOT, open);
            }
            if (!sum(open)) {
                return false;
            }
            if (token != LESS && token != EQUAL) {
                return true;
            }
            int sign = token;
            next();
            boolean stands = sum(open);
            put(sign);
            return stands;
        }

        private boolean sum(int open) {
            boolean stands = term(open);
            for (int i = 0; i < TAPE && stands && (token == PLUS || token == MINUS); i++) {
                int sign = token;
                next();
                stands = term(open);
                put(sign);
            }
            return stands;
        }

        private boolean term(int open) {
            boolean stands = single(open);
            for (int i = 0; i < TAPE && stands && token == TIMES; i++) {
                next();
                stands = single(open);
                put(TIMES);
            }
            return stands;
        }

        private boolean single(int open) {
            if (token == A_NUMBER || token < 0 && token >= FOOLS_NAME) {
                put(token == A_NUMBER ? value : token);
                next();
                return true;
            }
            if (token == MINUS) {
                return prefixed(NEGATE, open);
            }
            if (token != OPEN || open >= MOST_OPEN) {
                return false;
            }
            next();
            return either(open + 1) && passes(CLOSE);
        }

        private boolean prefixed(int word, int open) {
            if (open >= MOST_OPEN) {
                return false;
            }
            next();
            boolean stands = word == NOT ? denied(open + 1) : single(open + 1);
            put(word);
            return stands;
        }

        private void next() {
            while (at < size && (tape[at] == ' ' || tape[at] == '\n')) {
                at++;
            }
            start = at;
            if (at >= size) {
                token = END;
            } else if (isLetter(tape[at])) {
                token = wordToken();
            } else if (isDigit(tape[at])) {
                token = numberToken();
            } else {
                token = signToken(tape[at]);
                at++;
            }
        }

        private int wordToken() {
            while (at < size && isLetter(tape[at])) {
                at++;
            }
            if (spells("sighs")) return SIGHS_KEY;
            if (spells("moods")) return MOODS_KEY;
            if (spells("pays")) return PAYS_KEY;
            if (spells("or")) return OR;
            if (spells("and")) return AND;
            if (spells("not")) return NOT;
            if (spells("mood")) return MOOD_NAME;
            if (spells("hour")) return HOUR_NAME;
            if (spells("number")) return NUMBER_NAME;
            if (spells("others")) return OTHERS_NAME;
            if (spells("house")) return HOUSE_NAME;
            if (spells("fools")) return FOOLS_NAME;
            return WRONG;
        }

        private boolean spells(String word) {
            if (word.length() != at - start) {
                return false;
            }
            for (int i = 0; i < word.length(); i++) {
                if (word.charAt(i) != tape[start + i]) {
                    return false;
                }
            }
            return true;
        }

        private int numberToken() {
            value = 0;
            while (at < size && isDigit(tape[at])) {
                value = 10 * value + (tape[at] - '0');
                at++;
            }
            return at - start > MOST_DIGITS ? WRONG : A_NUMBER;
        }

        private static int signToken(int letter) {
            switch (letter) {
                case '(': return OPEN;
                case ')': return CLOSE;
                case ';': return STOP;
                case '+': return PLUS;
                case '-': return MINUS;
                case '*': return TIMES;
                case '<': return LESS;
                case '=': return EQUAL;
                default: return WRONG;
            }
        }

        private static boolean isLetter(int letter) {
            return letter >= 'a' && letter <= 'z';
        }

        private static boolean isDigit(int letter) {
            return letter >= '0' && letter <= '9';
        }
    }

    /** The least of what was offered, if less than at the beginning; of like ones the first. */
    private static final class Best {
        private int which = NONE, least = 0;

        private void begin(int now) {
            which = NONE;
            least = now;
        }

        private void offer(int one, int all) {
            if (all < least) {
                which = one;
                least = all;
            }
        }

        private int answer(int what) {
            return what == 0 ? which : least;
        }
    }

    private static final class Sheet {
        private final int[] row = new int[MOST_ITEMS];
        private int sort = MISSING, size = 0;

        private boolean isMissing() {
            return sort == MISSING;
        }

        private void becomeRow(int newSort, int newSize) {
            sort = newSort;
            size = newSize;
            for (int i = 0; i < MOST_ITEMS; i++) {
                row[i] = 0;
            }
        }

        private boolean holds(int from, int many) {
            // In this order no sum of the caller's numbers is built that could wrap.
            return many >= 0 && from >= 0 && many <= size && from <= size - many;
        }

        private void put(int i, int v) {
            if (sort == BYTES) {
                row[i] = (byte) v;
            } else if (sort == SHORTS) {
                row[i] = (short) v;
            } else {
                row[i] = v;
            }
        }
    }
}
