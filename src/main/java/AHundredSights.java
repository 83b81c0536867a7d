import java.util.Arrays;

public final class AHundredSights {
    public static final int NONE = -1, BAD = -2, STATE = -3, FULL = -4;
    public static final long NO = -4611686018427387904L;

    private static final int WRONG = -100000;
    private static final int NOTHING = -11, OUTSIDE = -12, UNLIKE = -13, NEGATIVE = -14;

    private static final int MOST_SIGHTS = 7, MOST_TEXTS = 6, MOST_SHEETS = 4, MOST_ITEMS = 40;
    private static final int MOST_BYTES = 160, MOST_DIGITS = 4, MOST_OPEN = 5, MOST_SEEDS = 20;
    private static final int TICKS = 200, SPOTS = 100, SIDE = 10, MOONS = 10, KINDS = 6, NUMBERS = 10;
    private static final int MOST_SLEEP = 99;

    // These are numbered as set() and told() ask for them.
    private static final int MOON = 0, LEFT = 1, RIGHT = 2, FIRST = 3, LAST = 4;
    private static final int WHERE = 5, WHEN = 6, PATIENCE = 7;
    private static final int NUMBER = 8, SPOT = 9, RISE = 10, SET = 11, WORTH = 12, KIND = 13, PAYS = 14;
    private static final int DIALS = 8, TRAITS = 6;
    private static final int[] MOST = {9, 9, 9, 199, 199, 99, 199, 199, 9, 99, 199, 199, 99};

    private static final int FAINT = 1, BRIGHT = 2, LOST = 3, DOUBLE = 4, FLARING = 5;
    private static final int[] KIND_ABOVE = {-1, 0, 0, 1, 2, 0};

    private static final int BYTES = 0, SHORTS = 1, INTS = 2;

    private static final String THE_FIRST_TEXT = "turns far ; finds 5 ; waits 0 ;";

    private final Sky sky = new Sky();
    private final Sky kept = new Sky();
    private final Sky trial = new Sky();
    private boolean hasImage = false;
    private final Reader reader = new Reader();
    private final Text[] texts = new Text[MOST_TEXTS];
    private int textCount = 1;
    private final Walk walk;
    private final Sheet[] sheets = new Sheet[MOST_SHEETS];

    public AHundredSights() {
        for (int i = 0; i < texts.length; i++) {
            texts[i] = new Text();
        }
        for (int i = 0; i < sheets.length; i++) {
            sheets[i] = new Sheet();
        }
        walk = new Walk(sky, texts);
        for (int i = 0; i < THE_FIRST_TEXT.length(); i++) {
            reader.append(THE_FIRST_TEXT.charAt(i));
        }
        reader.readInto(texts[0]);
    }

    // ---- the sky, sights

    public int set(int what, int of, int v) {
        return sky.allows(what, of, v) ? sky.change(what, of, v) : BAD;
    }

    public int sight(int kind, int number, int spot) {
        if (!isBelow(kind, KINDS) || !isBelow(number, NUMBERS) || !isBelow(spot, SPOTS)) {
            return BAD;
        }
        return sky.add(kind, number, spot);
    }

    public int told(int of, int what) {
        if (!isBelow(what, PAYS + 1) || what >= DIALS && !isBelow(of, sky.size)) {
            return BAD;
        }
        return what == PAYS ? sky.pays(of) : sky.get(what, of);
    }

    public int shines(int sight, int tick, int what) {
        if (!isBelow(sight, sky.size) || !isBelow(tick, TICKS) || !isBelow(what, 2)) {
            return BAD;
        }
        boolean so = what == 0 ? sky.isUp(sight, tick) : sky.isClouded(sight, tick);
        return so ? 1 : 0;
    }

    // ---- texts

    public int feed(int letter) {
        if (!isBelow(letter, 256)) {
            return BAD;
        }
        return reader.append(letter);
    }

    public int text() {
        if (textCount >= MOST_TEXTS) {
            return FULL;
        }
        int fault = reader.readInto(texts[textCount]);
        if (fault != NONE) {
            return -100 - fault;
        }
        textCount++;
        return textCount - 1;
    }

    public int force(int text) {
        if (!isBelow(text, textCount)) {
            return BAD;
        }
        int was = sky.rule;
        sky.rule = text;
        return was;
    }

    // ---- nights

    public int night(int what) {
        if (!asksOfNight(what)) {
            return WRONG;
        }
        walk.goPlain(sky, sky.all());
        return walk.answer(what);
    }

    public int order(int sheet, int what) {
        if (!isBelow(sheet, MOST_SHEETS) || !asksOfNight(what)) {
            return WRONG;
        }
        Sheet row = sheets[sheet];
        if (!tellsEachOnce(row)) {
            return WRONG;
        }
        walk.begin(sky);
        for (int place = 0; place < row.size; place++) {
            walk.lookFor(row.item(place), place);
        }
        return walk.answer(what);
    }

    // ---- what would be best

    public int best(int what) {
        if (!isBelow(what, 2)) {
            return WRONG;
        }
        Choice choice = new Choice();
        walk.begin(sky);
        tryOrders(choice, walk, 0, 0, 0, sky.paysOfAll());
        return choice.answer(what);
    }

    public int setting(int what) {
        if (!isBelow(what, 2)) {
            return WRONG;
        }
        int gone = 0;
        int digits = 0;
        walk.begin(sky);
        for (int place = 0; place < sky.size; place++) {
            int sight = firstToSet(gone);
            gone |= 1 << sight;
            digits = digits * 10 + sight + 1;
            walk.lookFor(sight, place);
        }
        return what == 0 ? walk.worth : digits;
    }

    public int late() {
        int now = foundPlain(sky);
        trial.takeAfter(sky);
        for (int tick = TICKS - 1; tick >= 0; tick--) {
            trial.change(WHEN, 0, tick);
            if (foundPlain(trial) >= now) {
                return tick;
            }
        }
        return NONE;
    }

    public int sleep(int n, int what) {
        if (n < 1 || n > MOST_SLEEP || !isBelow(what, 2)) {
            return WRONG;
        }
        Choice choice = new Choice();
        for (int place = 0; place <= sky.size; place++) {
            choice.weigh(place, worthSleeping(place, n));
        }
        return choice.answer(1 - what);
    }

    public int moon(int what) {
        if (!isBelow(what, 2)) {
            return WRONG;
        }
        Choice choice = new Choice();
        trial.takeAfter(sky);
        for (int moon = 0; moon < MOONS; moon++) {
            trial.change(MOON, 0, moon);
            choice.weigh(moon, walk.goPlain(trial, trial.all()));
        }
        return choice.answer(1 - what);
    }

    public int leave(int what) {
        if (!isBelow(what, 2)) {
            return WRONG;
        }
        Choice choice = new Choice();
        choice.weigh(NONE, walk.goPlain(sky, sky.all()));
        for (int i = 0; i < sky.size; i++) {
            choice.weigh(i, walk.goPlain(sky, sky.all() & ~(1 << i)));
        }
        return choice.answer(1 - what);
    }

    public int two(int what) {
        if (!isBelow(what, 2)) {
            return WRONG;
        }
        Choice choice = new Choice();
        int all = sky.all();
        for (int some = 0; some <= all; some++) {
            choice.weigh(some, walk.goPlain(sky, some) + walk.goPlain(sky, all & ~some));
        }
        return choice.answer(1 - what);
    }

    public int cloud() {
        return worthWithoutCloud() - walk.goPlain(sky, sky.all());
    }

    // ---- lists

    public int lists(int sheet, int what) {
        if (!isBelow(sheet, MOST_SHEETS) || !asksOfSights(what) && !isBelow(what, 5)) {
            return BAD;
        }
        Sheet list = sheets[sheet];
        if (list.isMissing()) {
            return NOTHING;
        }
        if (list.size != sky.size) {
            return BAD;
        }
        trial.takeAfter(sky);
        switch (what) {
            case 0: return notAsListed(list);
            case 1: return spotsThatFit(list, true);
            case 2: return spotsThatFit(list, false);
            case 3: return bitsThatFit(list, MOON, 0, MOONS);
            case 4: return textsThatFit(list);
            default: break;
        }
        return what < 20 ? bitsThatFit(list, KIND, what % 10, KINDS) : bitsThatFit(list, NUMBER, what % 10, NUMBERS);
    }

    public int film(int sheet) {
        if (!isBelow(sheet, MOST_SHEETS)) {
            return BAD;
        }
        Sheet row = sheets[sheet];
        walk.goPlain(sky, sky.all());
        row.become(SHORTS, sky.size);
        for (int i = 0; i < sky.size; i++) {
            row.put(i, walk.tickFound(i));
        }
        return sky.size;
    }

    public int drawn(int seed) {
        return worthDrawn(seed);
    }

    public long chance(int seed, int n, int part) {
        if (n < 1 || n > MOST_SEEDS || !isBelow(part, 2)) {
            return NO;
        }
        int bound = worthWithoutCloud();
        int good = 0;
        for (int i = 0; i < n; i++) {
            if (worthDrawn(seed + i) >= bound) {
                good++;
            }
        }
        return part == 0 ? inLowestTerms(good, good, n) : inLowestTerms(n, good, n);
    }

    public int image() {
        kept.takeAfter(sky);
        hasImage = true;
        return kept.size;
    }

    public int back() {
        if (!hasImage) {
            return STATE;
        }
        sky.takeAfter(kept);
        return sky.size;
    }

    public int count(int what) {
        switch (what) {
            case 0: return sky.size;
            case 1: return textCount;
            case 2: return reader.size;
            case 3: return sky.rule;
            default: return BAD;
        }
    }

    // ---- the host

    public int sheet(int sheet, int sort, int n) {
        if (!isBelow(sheet, MOST_SHEETS) || sort != NONE && !isSort(sort)) {
            return BAD;
        }
        if (sort == NONE) {
            sheets[sheet].become(NONE, 0);
            return 1;
        }
        if (n > MOST_ITEMS) {
            return BAD;
        }
        if (n < 0) {
            return NEGATIVE;
        }
        sheets[sheet].become(sort, n);
        return 1;
    }

    public int cell(int sheet, int i, int v) {
        if (!isBelow(sheet, MOST_SHEETS)) {
            return BAD;
        }
        Sheet row = sheets[sheet];
        if (row.isMissing()) {
            return NOTHING;
        }
        if (!isBelow(i, row.size)) {
            return OUTSIDE;
        }
        row.put(i, v);
        return 1;
    }

    public int copy(int sheet, int i, int other, int j, int n) {
        if (!isBelow(sheet, MOST_SHEETS) || !isBelow(other, MOST_SHEETS)) {
            return BAD;
        }
        Sheet from = sheets[sheet];
        Sheet to = sheets[other];
        if (from.isMissing() || to.isMissing()) {
            return NOTHING;
        }
        if (from.sort != to.sort) {
            return UNLIKE;
        }
        if (!from.holds(i, n) || !to.holds(j, n)) {
            return OUTSIDE;
        }
        System.arraycopy(from.items, i, to.items, j, n);
        return n;
    }

    public int sights(int sheet, int sort, int from, int n) {
        if (!isBelow(sheet, MOST_SHEETS) || !isSort(sort) || !isBelow(n, MOST_SIGHTS + 1)) {
            return BAD;
        }
        Sheet row = sheets[sheet];
        if (!row.isMissing() && row.sort != sort) {
            return UNLIKE;
        }
        if (row.isMissing()) {
            return NOTHING;
        }
        int came = 0;
        int i = from;
        for (int k = 0; k < n; k++) {
            if (!row.holds(i, 3)) {
                return OUTSIDE;
            }
            if (sight(row.item(i), row.item(i + 1), row.item(i + 2)) >= 0) {
                came++;
            }
            i += 3;
        }
        return came;
    }

    public int taken(int sight, int k) {
        if (!isBelow(k, KINDS)) {
            return BAD;
        }
        if (!isBelow(sight, sky.size)) {
            return NOTHING;
        }
        return isOfKind(sky.get(KIND, sight), k) ? sky.get(NUMBER, sight) : UNLIKE;
    }

    // ---- what the calls share

    private static boolean isBelow(int v, int bound) {
        return v >= 0 && v < bound;
    }

    private static boolean isSort(int sort) {
        return sort >= BYTES && sort <= INTS;
    }

    private static boolean isOfKind(int kind, int wanted) {
        int at = kind;
        for (int step = 0; step < KINDS && isBelow(at, KINDS); step++) {
            if (at == wanted) {
                return true;
            }
            at = KIND_ABOVE[at];
        }
        return false;
    }

    private boolean asksOfSights(int what) {
        return what >= 10 && what < 30 && what % 10 < sky.size;
    }

    private boolean asksOfNight(int what) {
        return isBelow(what, 5) || asksOfSights(what);
    }

    private boolean tellsEachOnce(Sheet row) {
        if (row.isMissing() || row.size != sky.size) {
            return false;
        }
        int told = 0;
        for (int i = 0; i < row.size; i++) {
            int sight = row.item(i);
            if (!isBelow(sight, sky.size)) {
                return false;
            }
            told |= 1 << sight;
        }
        return told == sky.all();
    }

    // No more than what those left pay can still come: where that is no more than the best so
    // far, none of these orders can be the first of most WORTH, so they are not gone through.
    private static void tryOrders(Choice choice, Walk walk, int place, int gone, int digits, int payable) {
        if (place >= walk.sky.size || place >= MOST_SIGHTS) {
            choice.weigh(digits, walk.worth);
            return;
        }
        int at = walk.at;
        int tick = walk.tick;
        int worth = walk.worth;
        for (int i = 0; i < walk.sky.size; i++) {
            if ((gone >> i & 1) != 0) {
                continue;
            }
            walk.at = at;
            walk.tick = tick;
            walk.worth = worth;
            walk.lookFor(i, place);
            int left = payable - walk.sky.pays(i);
            if (walk.worth + left > choice.worth) {
                tryOrders(choice, walk, place + 1, gone | 1 << i, digits * 10 + i + 1, left);
            }
        }
    }

    private int firstToSet(int gone) {
        int first = 0;
        int least = TICKS;
        for (int i = 0; i < sky.size; i++) {
            if ((gone >> i & 1) == 0 && sky.get(SET, i) < least) {
                first = i;
                least = sky.get(SET, i);
            }
        }
        return first;
    }

    private int foundPlain(Sky one) {
        walk.goPlain(one, one.all());
        return Integer.bitCount(walk.found);
    }

    private int worthSleeping(int place, int n) {
        walk.begin(sky);
        for (int i = 0; i < sky.size; i++) {
            if (i == place) {
                walk.tick += n;
            }
            walk.lookFor(i, i);
        }
        return walk.worth;
    }

    private int worthWithoutCloud() {
        trial.takeAfter(sky);
        trial.change(LEFT, 0, SIDE - 1);
        trial.change(RIGHT, 0, 0);
        return walk.goPlain(trial, trial.all());
    }

    private int worthDrawn(int seed) {
        trial.takeAfter(sky);
        int z = seed;
        for (int what = LEFT; what <= LAST; what++) {
            z = z * 1103515245 + 12345;
            trial.change(what, 0, (z >>> 9) % (what <= RIGHT ? SIDE : TICKS));
        }
        return walk.goPlain(trial, trial.all());
    }

    private static int inLowestTerms(int part, int above, int below) {
        for (int d = below; d > 1; d--) {
            if (above % d == 0 && below % d == 0) {
                return part / d;
            }
        }
        return part;
    }

    private int notAsListed(Sheet list) {
        int unlike = 0;
        walk.goPlain(trial, trial.all());
        for (int i = 0; i < trial.size; i++) {
            if (walk.tickFound(i) != list.item(i)) {
                unlike |= 1 << i;
            }
        }
        return unlike;
    }

    private int spotsThatFit(Sheet list, boolean asksHowMany) {
        int many = 0;
        int least = NONE;
        for (int spot = SPOTS - 1; spot >= 0; spot--) {
            trial.change(WHERE, 0, spot);
            if (notAsListed(list) == 0) {
                many++;
                least = spot;
            }
        }
        return asksHowMany ? many : least;
    }

    private int bitsThatFit(Sheet list, int what, int of, int bound) {
        int bits = 0;
        for (int v = 0; v < bound; v++) {
            trial.change(what, of, v);
            if (notAsListed(list) == 0) {
                bits |= 1 << v;
            }
        }
        return bits;
    }

    private int textsThatFit(Sheet list) {
        int bits = 0;
        for (int text = 0; text < textCount; text++) {
            trial.rule = text;
            if (notAsListed(list) == 0) {
                bits |= 1 << text;
            }
        }
        return bits;
    }

    /** All that AN IMAGE keeps, so that an image and a trial are skies too. */
    private static final class Sky {
        private final int[] dials = {0, SIDE - 1, 0, TICKS - 1, 0, 0, 0, TICKS - 1};
        private final int[][] traits = new int[TRAITS][MOST_SIGHTS];
        private final int[] numbers = traits[NUMBER - DIALS];
        private final int[] spots = traits[SPOT - DIALS];
        private final int[] rises = traits[RISE - DIALS];
        private final int[] sets = traits[SET - DIALS];
        private final int[] worths = traits[WORTH - DIALS];
        private final int[] kinds = traits[KIND - DIALS];
        // Of each TICK, in how many on end from it on a SIGHT can be seen.
        private final int[][] clear = new int[MOST_SIGHTS][TICKS];
        // Bits of the SIGHTS whose rows in clear don't hold any more.
        private int stale = 0;
        int size = 0;
        int rule = 0;

        void takeAfter(Sky other) {
            System.arraycopy(other.dials, 0, dials, 0, DIALS);
            for (int i = 0; i < TRAITS; i++) {
                System.arraycopy(other.traits[i], 0, traits[i], 0, MOST_SIGHTS);
            }
            for (int i = 0; i < MOST_SIGHTS; i++) {
                System.arraycopy(other.clear[i], 0, clear[i], 0, TICKS);
            }
            stale = other.stale;
            size = other.size;
            rule = other.rule;
        }

        int all() {
            return (1 << size) - 1;
        }

        int get(int what, int of) {
            if (isBelow(what, DIALS)) {
                return dials[what];
            }
            boolean isThere = isBelow(what - DIALS, TRAITS) && isBelow(of, MOST_SIGHTS);
            return isThere ? traits[what - DIALS][of] : BAD;
        }

        boolean allows(int what, int of, int v) {
            if (!isBelow(what, MOST.length) || v < 0 || v > MOST[what]) {
                return false;
            }
            if (what >= DIALS && !isBelow(of, size)) {
                return false;
            }
            return (what != RISE || v <= get(SET, of)) && (what != SET || v >= get(RISE, of));
        }

        int change(int what, int of, int v) {
            int was = get(what, of);
            if (isBelow(what, DIALS)) {
                dials[what] = v;
                if (what >= LEFT && what <= LAST) {
                    stale = all();
                }
            } else if (isBelow(what - DIALS, TRAITS) && isBelow(of, MOST_SIGHTS)) {
                traits[what - DIALS][of] = v;
                stale |= 1 << of;
            }
            return was;
        }

        int add(int kind, int number, int spot) {
            if (size >= MOST_SIGHTS) {
                return FULL;
            }
            int sight = size;
            size++;
            change(KIND, sight, kind);
            change(NUMBER, sight, number);
            change(SPOT, sight, spot);
            change(RISE, sight, 0);
            change(SET, sight, TICKS - 1);
            change(WORTH, sight, 10);
            return sight;
        }

        boolean isUp(int sight, int tick) {
            if (!isBelow(sight, MOST_SIGHTS) || tick < rises[sight]) {
                return false;
            }
            int number = numbers[sight];
            boolean isBeforeSet = tick <= sets[sight];
            switch (kinds[sight]) {
                case FAINT:
                case LOST: return isBeforeSet && tick >= rises[sight] + number;
                case BRIGHT:
                case DOUBLE: return tick <= sets[sight] + number;
                case FLARING: return isBeforeSet && tick % Math.max(number + 2, 2) != 0;
                default: return isBeforeSet;
            }
        }

        boolean isClouded(int sight, int tick) {
            if (!isBelow(sight, MOST_SIGHTS)) {
                return false;
            }
            int x = spots[sight] % SIDE;
            return x >= dials[LEFT] && x <= dials[RIGHT] && tick >= dials[FIRST] && tick <= dials[LAST];
        }

        int needs(int sight, int finds) {
            if (!isBelow(sight, MOST_SIGHTS)) {
                return 1;
            }
            int ticks = finds;
            switch (kinds[sight]) {
                case FAINT: ticks = finds + dials[MOON]; break;
                case BRIGHT: ticks = finds / 2; break;
                case LOST: ticks = 2 * (finds + dials[MOON]); break;
                case DOUBLE: ticks = finds / 2 + numbers[sight]; break;
                default: break;
            }
            return Math.max(ticks, 1);
        }

        int pays(int sight) {
            if (!isBelow(sight, MOST_SIGHTS)) {
                return 0;
            }
            int worth = worths[sight];
            switch (kinds[sight]) {
                case FAINT: return worth + numbers[sight];
                case LOST: return 2 * (worth + numbers[sight]);
                case DOUBLE: return worth + 1;
                default: return worth;
            }
        }

        int paysOfAll() {
            int sum = 0;
            for (int i = 0; i < size; i++) {
                sum += pays(i);
            }
            return sum;
        }

        /** The first TICK from which on it can be FOUND by one who has turned in TICK from, or NONE. */
        int firstClear(int sight, int from, int needs) {
            if (!isBelow(sight, MOST_SIGHTS) || from < 0) {
                return NONE;
            }
            int last = Math.min(from + dials[PATIENCE], TICKS - 1);
            for (int tick = from; tick <= last; tick++) {
                if (clear[sight][tick] >= needs) {
                    return tick;
                }
            }
            return NONE;
        }

        /** Makes the rows in clear hold again: a night begins by this, since what it reads is in them. */
        void lookAhead() {
            for (int i = 0; i < size && i < MOST_SIGHTS; i++) {
                if ((stale >> i & 1) == 0) {
                    continue;
                }
                int onEnd = 0;
                for (int tick = TICKS - 1; tick >= 0; tick--) {
                    onEnd = isUp(i, tick) && !isClouded(i, tick) ? onEnd + 1 : 0;
                    clear[i][tick] = onEnd;
                }
            }
            stale = 0;
        }
    }

    /** One who goes through A NIGHT: where he is, and what came of it so far. */
    private static final class Walk {
        private final Text[] texts;
        private final int[] names = new int[Text.NAMES];
        private final int[] stack = new int[MOST_BYTES];
        private final int[] foundIn = new int[MOST_SIGHTS];
        private final int[] waitedFor = new int[MOST_SIGHTS];
        Sky sky;
        private Text rule;
        int at = 0;
        int tick = 0;
        int worth = 0;
        int found = 0;
        private int waited = 0;

        Walk(Sky sky, Text[] texts) {
            this.texts = texts;
            this.sky = sky;
            this.rule = texts.length > 0 ? texts[0] : new Text();
        }

        void begin(Sky one) {
            sky = one;
            one.lookAhead();
            if (isBelow(one.rule, texts.length)) {
                rule = texts[one.rule];
            }
            at = one.get(WHERE, 0);
            tick = one.get(WHEN, 0);
            worth = 0;
            found = 0;
            waited = 0;
            Arrays.fill(foundIn, NONE);
            Arrays.fill(waitedFor, NONE);
        }

        /** PLAIN, of some (bits). */
        int goPlain(Sky one, int some) {
            begin(one);
            int place = 0;
            for (int i = 0; i < one.size; i++) {
                if ((some >> i & 1) != 0) {
                    lookFor(i, place);
                    place++;
                }
            }
            return worth;
        }

        void lookFor(int sight, int place) {
            if (!isBelow(sight, MOST_SIGHTS)) {
                return;
            }
            int spot = sky.get(SPOT, sight);
            names[Text.TICK] = tick;
            names[Text.FAR] = Math.max(Math.abs(at % SIDE - spot % SIDE), Math.abs(at / SIDE - spot / SIDE));
            names[Text.MOON_NAME] = sky.get(MOON, 0);
            names[Text.NUMBER_NAME] = sky.get(NUMBER, sight);
            names[Text.HEIGHT] = spot / SIDE;
            names[Text.ORDER] = place;
            int turned = tick + rule.value(Text.TURNS, names, stack);
            names[Text.TICK] = turned;
            int needs = sky.needs(sight, rule.value(Text.FINDS, names, stack));
            int first = sky.firstClear(sight, turned, needs);
            if (first == NONE) {
                return;
            }
            int waits = first - turned;
            if (waits > 0) {
                worth -= waits * rule.value(Text.WAITS, names, stack);
            }
            worth += sky.pays(sight);
            waited += waits;
            found |= 1 << sight;
            waitedFor[sight] = waits;
            at = spot;
            tick = first + needs;
            foundIn[sight] = tick - 1;
        }

        int tickFound(int sight) {
            return isBelow(sight, MOST_SIGHTS) ? foundIn[sight] : NONE;
        }

        int answer(int what) {
            switch (what) {
                case 0: return worth;
                case 1: return Integer.bitCount(found);
                case 2: return found;
                case 3: return tick;
                case 4: return waited;
                default: break;
            }
            int sight = what % 10;
            if (!isBelow(sight, MOST_SIGHTS)) {
                return WRONG;
            }
            return what < 20 ? foundIn[sight] : waitedFor[sight];
        }
    }

    /** What was of most WORTH so far; of like ones the first that was weighed. */
    private static final class Choice {
        private int which = NONE;
        // Below what any night can come to.
        int worth = -1000000;

        void weigh(int one, int itsWorth) {
            if (itsWorth > worth) {
                which = one;
                worth = itsWorth;
            }
        }

        int answer(int what) {
            return what == 0 ? worth : which;
        }
    }

    private static final class Sheet {
        int sort = NONE;
        int size = 0;
        final int[] items = new int[MOST_ITEMS];

        void become(int newSort, int n) {
            sort = newSort;
            size = n;
            Arrays.fill(items, 0);
        }

        boolean isMissing() {
            return sort == NONE;
        }

        boolean holds(int from, int n) {
            return from >= 0 && n >= 0 && from <= size && n <= size - from;
        }

        int item(int i) {
            return isBelow(i, size) && i < items.length ? items[i] : NONE;
        }

        void put(int i, int v) {
            if (!isBelow(i, size) || i >= items.length) {
                return;
            }
            if (sort == BYTES) {
                items[i] = (byte) v;
            } else if (sort == SHORTS) {
                items[i] = (short) v;
            } else {
                items[i] = v;
            }
        }
    }

    /** A TEXT as marks for a stack: from 0 on a NUMBER, below it a NAME or what is to be done. */
    private static final class Text {
        static final int TURNS = 0, FINDS = 1, WAITS = 2, PARTS = 3;
        static final int TICK = 0, FAR = 1, MOON_NAME = 2, NUMBER_NAME = 3, HEIGHT = 4, ORDER = 5, NAMES = 6;
        static final int FIRST_NAME = -1;
        static final int NEGATE = -7, NOT = -8, OR = -9, AND = -10, LESS = -11, EQUAL = -12;
        static final int PLUS = -13, MINUS = -14, TIMES = -15;
        private static final int[] LEAST_VALUE = {0, 1, 0};
        private static final int[] MOST_VALUE = {50, 99, 9};

        private final int[] marks = new int[MOST_BYTES];
        private final int[] ends = new int[PARTS];
        private int size = 0;

        void empty() {
            size = 0;
        }

        void add(int mark) {
            if (size < marks.length) {
                marks[size] = mark;
                size++;
            }
        }

        void endPart(int part) {
            if (isBelow(part, PARTS)) {
                ends[part] = size;
            }
        }

        int value(int part, int[] names, int[] stack) {
            if (!isBelow(part, PARTS)) {
                return BAD;
            }
            int top = 0;
            for (int i = part == 0 ? 0 : ends[part - 1]; i < ends[part] && i < marks.length; i++) {
                int mark = marks[i];
                if (mark > NEGATE) {
                    if (top < stack.length) {
                        stack[top] = mark >= 0 || FIRST_NAME - mark >= names.length ? mark : names[FIRST_NAME - mark];
                        top++;
                    }
                } else if (mark >= NOT) {
                    if (top > 0) {
                        stack[top - 1] = mark == NEGATE ? -stack[top - 1] : stack[top - 1] == 0 ? 1 : 0;
                    }
                } else if (top > 1) {
                    stack[top - 2] = joined(mark, stack[top - 2], stack[top - 1]);
                    top--;
                }
            }
            int told = top > 0 ? stack[top - 1] : 0;
            return Math.min(Math.max(told, LEAST_VALUE[part]), MOST_VALUE[part]);
        }

        private static int joined(int mark, int left, int right) {
            switch (mark) {
                case OR: return left != 0 || right != 0 ? 1 : 0;
                case AND: return left != 0 && right != 0 ? 1 : 0;
                case LESS: return left < right ? 1 : 0;
                case EQUAL: return left == right ? 1 : 0;
                case PLUS: return left + right;
                case MINUS: return left - right;
                default: return left * right;
            }
        }
    }

    /** THE TAPE, and how it is read. A token is a sign's own number, or one of those here. */
    private static final class Reader {
        private static final int END = -1, NO_TOKEN = -2, A_NUMBER = 256, A_NAME = 257;
        private static final int TURNS = 258, FINDS = 259, WAITS = 260, OR = 261, AND = 262, NOT = 263;
        // The NAMES, then the KEYS, in the order of their numbers.
        private static final String WORDS = " tick far moon number height order turns finds waits or and not ";
        private static final String SIGNS = "();+-*<=";

        private final int[] tape = new int[MOST_BYTES];
        int size = 0;
        private Text into = new Text();
        private int start = 0;
        private int next = 0;
        private int token = END;
        private int value = 0;
        private int open = 0;

        int append(int letter) {
            if (size >= tape.length) {
                return FULL;
            }
            tape[size] = letter;
            size++;
            return size;
        }

        /** Empties THE TAPE. The place of the FAULT, or NONE: nothing is read beyond what can't stand there. */
        int readInto(Text text) {
            into = text;
            into.empty();
            next = 0;
            open = 0;
            advance();
            boolean stands = readPart(TURNS, Text.TURNS) && readPart(FINDS, Text.FINDS)
                && readPart(WAITS, Text.WAITS) && token == END;
            size = 0;
            return stands ? NONE : start;
        }

        private boolean readPart(int key, int part) {
            if (!passes(key) || !readEither() || !passes(';')) {
                return false;
            }
            into.endPart(part);
            return true;
        }

        private boolean passes(int wanted) {
            if (token != wanted) {
                return false;
            }
            advance();
            return true;
        }

        private boolean readEither() {
            boolean stands = readBoth();
            for (int i = 0; i < MOST_BYTES && stands && token == OR; i++) {
                advance();
                stands = readBoth();
                into.add(Text.OR);
            }
            return stands;
        }

        private boolean readBoth() {
            boolean stands = readNot();
            for (int i = 0; i < MOST_BYTES && stands && token == AND; i++) {
                advance();
                stands = readNot();
                into.add(Text.AND);
            }
            return stands;
        }

        private boolean readNot() {
            if (token != NOT) {
                return readComparison();
            }
            if (!opens()) {
                return false;
            }
            advance();
            boolean stands = readNot();
            open--;
            into.add(Text.NOT);
            return stands;
        }

        private boolean readComparison() {
            boolean stands = readSum();
            int sign = token;
            if (!stands || sign != '<' && sign != '=') {
                return stands;
            }
            advance();
            stands = readSum();
            into.add(sign == '<' ? Text.LESS : Text.EQUAL);
            return stands;
        }

        private boolean readSum() {
            boolean stands = readTerm();
            for (int i = 0; i < MOST_BYTES && stands && (token == '+' || token == '-'); i++) {
                int sign = token;
                advance();
                stands = readTerm();
                into.add(sign == '+' ? Text.PLUS : Text.MINUS);
            }
            return stands;
        }

        private boolean readTerm() {
            boolean stands = readOne();
            for (int i = 0; i < MOST_BYTES && stands && token == '*'; i++) {
                advance();
                stands = readOne();
                into.add(Text.TIMES);
            }
            return stands;
        }

        private boolean readOne() {
            if (token == '-') {
                return readNegated();
            }
            if (token == '(') {
                return readEnclosed();
            }
            if (token != A_NUMBER && token != A_NAME) {
                return false;
            }
            into.add(token == A_NUMBER ? value : Text.FIRST_NAME - value);
            advance();
            return true;
        }

        private boolean readNegated() {
            if (!opens()) {
                return false;
            }
            advance();
            boolean stands = readOne();
            open--;
            into.add(Text.NEGATE);
            return stands;
        }

        private boolean readEnclosed() {
            if (!opens()) {
                return false;
            }
            advance();
            boolean stands = readEither() && token == ')';
            open--;
            if (stands) {
                advance();
            }
            return stands;
        }

        private boolean opens() {
            if (open >= MOST_OPEN) {
                return false;
            }
            open++;
            return true;
        }

        private void advance() {
            for (; next < size && (tape[next] == 32 || tape[next] == 10); next++) {
                token = NO_TOKEN;
            }
            start = next;
            if (start >= size) {
                token = END;
            } else if (isLetter(tape[start])) {
                takeWord();
            } else if (isDigit(tape[start])) {
                takeNumber();
            } else {
                token = SIGNS.indexOf((char) tape[start]) >= 0 ? tape[start] : NO_TOKEN;
                next++;
            }
        }

        private static boolean isLetter(int letter) {
            return letter >= 'a' && letter <= 'z';
        }

        private static boolean isDigit(int letter) {
            return letter >= '0' && letter <= '9';
        }

        private void takeNumber() {
            value = 0;
            for (; next < size && isDigit(tape[next]); next++) {
                value = value * 10 + tape[next] - '0';
            }
            token = next - start > MOST_DIGITS ? NO_TOKEN : A_NUMBER;
        }

        private void takeWord() {
            for (; next < size && isLetter(tape[next]); next++) {
                token = NO_TOKEN;
            }
            int word = 0;
            for (int i = 0; i < WORDS.length(); i++) {
                if (WORDS.charAt(i) != ' ') {
                    continue;
                }
                if (isWordAt(i + 1)) {
                    token = word < Text.NAMES ? A_NAME : TURNS + word - Text.NAMES;
                    value = word;
                    return;
                }
                word++;
            }
        }

        private boolean isWordAt(int i) {
            int length = next - start;
            if (i + length >= WORDS.length() || WORDS.charAt(i + length) != ' ') {
                return false;
            }
            for (int k = 0; k < length; k++) {
                if (WORDS.charAt(i + k) != tape[start + k]) {
                    return false;
                }
            }
            return true;
        }
    }
}
