/** Letters that leave a town under siege in quills inside geese; ../shared/DOC.md says what each call promises. */
public final class GooseLetters {
    public static final int NONE = -1;

    private static final int OTHER = -2;

    private static final int MARKETS = 4;
    private static final int GEESE = 10;
    private static final int LETTERS = 6;
    private static final int PARTS = 3;
    private static final int TEXTS = 4;
    private static final int LAST_DAY = 999;

    // The fields of a GOOSE stand in the order in which of() numbers them.
    private static final int WEIGHT = 0;
    private static final int FEATHERS = 1;
    private static final int LETTER = 2;
    private static final int PART = 3;
    private static final int FATE = 4;
    private static final int MARKET = 5;
    private static final int THERE = 6;
    private static final int THEN = 7;
    private static final int NAMED = 8;
    private static final int GOOSE_FIELDS = 9;

    private static final int WAY = 0;
    private static final int GREED = 1;
    private static final int EYES = 2;
    private static final int MARKET_FIELDS = 3;

    private static final int HOME = 0;
    private static final int ON_WAY = 1;
    private static final int FRIENDS = 2;
    private static final int EATEN = 3;
    private static final int READ = 4;
    private static final int EATEN_HOME = 5;
    private static final int FATES = 6;

    private static final int BUTCHER = 0;
    private static final int READER = 1;
    private static final int INK = 2;
    private static final int CODE = 3;
    private static final int LAWS = 4;

    private static final int TAPE_BYTES = 300;
    private static final int FEED_BYTES = 20;
    private static final int CLAUSES = 24;
    private static final int CLAUSE_FIELDS = 4;

    // Kinds of TOKENS: those from BUTCHER_WORD on are the words of WORDS, in its order.
    private static final int END_TOKEN = 0;
    private static final int BAD_TOKEN = 1;
    private static final int NUMBER = 2;
    private static final int LESS = 3;
    private static final int LESS_EQUAL = 4;
    private static final int MORE = 5;
    private static final int MORE_EQUAL = 6;
    private static final int EQUAL = 7;
    private static final int UNLIKE = 8;
    private static final int PLUS = 9;
    private static final int MINUS = 10;
    private static final int TIMES = 11;
    private static final int OVER = 12;
    private static final int OPEN = 13;
    private static final int CLOSE = 14;
    private static final int SEMICOLON = 15;
    private static final int BUTCHER_WORD = 16;
    private static final int FILL_WORD = 20;
    private static final int SEND_WORD = 21;
    private static final int FATTEN_WORD = 22;
    private static final int PASS_WORD = 23;
    private static final int WITH_WORD = 24;
    private static final int TO_WORD = 25;
    private static final int OR_WORD = 26;
    private static final int AND_WORD = 27;
    private static final int NOT_WORD = 28;
    private static final int GOOSE_WORD = 29;
    private static final int PART_WORD = 33;
    private static final int MARKET_WORD = 35;
    private static final int EYES_WORD = 37;
    private static final int NEGATE = 38;

    // Each word has a blank behind it: that is how its end is found.
    private static final String WORDS =
            "butcher reader ink code fill send fatten pass with to or and not goose weight feathers letter part day market greed eyes ";

    // Where the values of NAMES stand, in the order of their words.
    private static final int GOOSE_NAME = 0;
    private static final int WEIGHT_NAME = 1;
    private static final int FEATHERS_NAME = 2;
    private static final int LETTER_NAME = 3;
    private static final int PART_NAME = 4;
    private static final int DAY_NAME = 5;
    private static final int MARKET_NAME = 6;
    private static final int GREED_NAME = 7;
    private static final int EYES_NAME = 8;
    private static final int NAMES = 9;

    // One number is one step of a law: a NUMBER itself, or a NAME or an operation with one of these added.
    private static final int NUMBER_MOST = 9999;
    private static final int NAME_STEP = 10000;
    private static final int WORK_STEP = 20000;

    private static final int CANNOT_STAND = 1;
    private static final int WRONG_NUMBER = 2;
    private static final int TOO_DEEP = 3;
    private static final int SECOND_LAW = 4;
    private static final int STRANGE_NAME = 5;
    private static final int TOO_MANY = 6;

    private static final int BOTH_HALVES = 3;

    private final State now = new State();
    private final State kept = new State();
    private final Tape tape = new Tape();
    private final Tokens tokens = new Tokens();
    private final Parser parser = new Parser();
    private final Laws laws = new Laws();
    private final Chances chances = new Chances();
    private final Search search = new Search();

    public GooseLetters() {
    }

    public int market(int way, int greed, int eyes) {
        if (way < 1 || way > 9 || !isDigit(greed) || !isDigit(eyes)) {
            return NONE;
        }
        return now.addMarket(way, greed, eyes);
    }

    public int goose(int weight, int feathers) {
        if (weight < 1 || weight > 20 || feathers < 0 || feathers > 99) {
            return NONE;
        }
        return now.addGoose(weight, feathers);
    }

    public boolean store(int grain, int mouths) {
        if (grain < 0 || grain > 9999 || mouths < 0 || mouths > 99) {
            return false;
        }
        now.grain = grain;
        now.mouths = mouths;
        return true;
    }

    public boolean seed(int seed) {
        if (seed < 0 || seed > 9999) {
            return false;
        }
        now.x = seed * 11 + 9;
        return true;
    }

    public int fill(int goose, int letter, int part) {
        if (!isQuill(letter, part) || !now.isHome(goose) || now.ofGoose(goose, LETTER) != NONE) {
            return NONE;
        }
        int cost = laws.inkCost(now, goose, letter, part);
        if (cost > now.grain) {
            return NONE;
        }
        now.keepStep();
        now.grain -= cost;
        now.setGoose(goose, LETTER, letter);
        now.setGoose(goose, PART, part);
        return now.grain;
    }

    public int send(int goose, int market) {
        if (!now.hasMarket(market) || !now.isFree(goose)) {
            return NONE;
        }
        now.keepStep();
        int there = now.day + now.ofMarket(market, WAY);
        now.setGoose(goose, FATE, ON_WAY);
        now.setGoose(goose, MARKET, market);
        now.setGoose(goose, THERE, there);
        return there;
    }

    public int fatten(int goose) {
        if (!now.isHome(goose) || now.ofGoose(goose, WEIGHT) >= 20 || now.grain < 1) {
            return NONE;
        }
        now.keepStep();
        now.grain--;
        now.setGoose(goose, WEIGHT, now.ofGoose(goose, WEIGHT) + 1);
        return now.ofGoose(goose, WEIGHT);
    }

    public int pluck(int goose) {
        if (!now.isHome(goose) || now.ofGoose(goose, FEATHERS) < 1) {
            return NONE;
        }
        now.keepStep();
        now.setGoose(goose, FEATHERS, now.ofGoose(goose, FEATHERS) - 1);
        return now.ofGoose(goose, FEATHERS);
    }

    public boolean name(int goose) {
        if (!now.isFree(goose)) {
            return false;
        }
        now.keepStep();
        now.setGoose(goose, NAMED, 1);
        return true;
    }

    public int pass(int days) {
        if (days < 1 || days > 99 || now.day + days > LAST_DAY) {
            return NONE;
        }
        now.keepStep();
        for (int i = 0; i < days; i++) {
            passOneDay();
        }
        return now.day;
    }

    public int feed(int a, int b, int c, int d, int e) {
        if (tape.length + FEED_BYTES > TAPE_BYTES) {
            return NONE;
        }
        tape.addFour(a);
        tape.addFour(b);
        tape.addFour(c);
        tape.addFour(d);
        tape.addFour(e);
        return tape.length;
    }

    public int end(int n) {
        if (n < 0 || n > tape.length) {
            return NONE;
        }
        tape.length = n;
        return n;
    }

    public int text() {
        Text place = laws.textOf(now.textCount);
        if (place == null) {
            return NONE;
        }
        tokens.split(tape);
        parser.parse(tokens, place);
        tape.length = 0;
        if (parser.fault != 0) {
            return NONE;
        }
        now.textCount++;
        return now.textCount - 1;
    }

    public int fault(int what) {
        if (what == 0) {
            return parser.fault;
        }
        return what == 1 ? parser.place : NONE;
    }

    public boolean by(int text) {
        if (text < NONE || text >= now.textCount) {
            return false;
        }
        now.ruling = text;
        return true;
    }

    public int played(int text) {
        Text script = laws.textOf(text);
        if (text >= now.textCount || script == null) {
            return OTHER;
        }
        for (int i = 0; i < script.clauseCount; i++) {
            int a = script.clauseField(i, 1);
            int b = script.clauseField(i, 2);
            int done = 0;
            switch (script.clauseField(i, 0)) {
                case FILL_WORD: done = fill(a, b, script.clauseField(i, 3)); break;
                case SEND_WORD: done = send(a, b); break;
                case FATTEN_WORD: done = fatten(a); break;
                case PASS_WORD: done = pass(a); break;
                default: break;
            }
            if (done == NONE) {
                return i;
            }
        }
        return NONE;
    }

    public int undo() {
        return now.takeStepBack() ? now.stepCount : NONE;
    }

    public int of(int goose, int what) {
        if (!now.hasGoose(goose) || what < 0 || what > GOOSE_FIELDS) {
            return OTHER;
        }
        if (what == GOOSE_FIELDS) {
            return laws.isTrue(now, goose) ? 1 : 0;
        }
        return now.ofGoose(goose, what);
    }

    public int ink(int goose, int letter, int part) {
        if (!now.hasGoose(goose) || !isQuill(letter, part)) {
            return NONE;
        }
        return laws.inkCost(now, goose, letter, part);
    }

    public int known(int letter, int day) {
        if (!isLetter(letter) || day < 0 || day > LAST_DAY) {
            return NONE;
        }
        int friends = halvesHad(letter, false, day, GEESE) == BOTH_HALVES ? 1 : 0;
        int enemy = halvesHad(letter, true, day, GEESE) == BOTH_HALVES ? 2 : 0;
        return friends + enemy;
    }

    public int led(int letter, boolean enemy) {
        int first = NONE;
        if (!isLetter(letter)) {
            return first;
        }
        for (int goose = 0; goose < now.gooseCount; goose++) {
            int then = now.ofGoose(goose, THEN);
            boolean sooner = first == NONE || then < now.ofGoose(first, THEN);
            if (sooner && tells(goose, letter, enemy)
                    && halvesHad(letter, enemy, then, goose + 1) == BOTH_HALVES) {
                first = goose;
            }
        }
        return first;
    }

    public int answer(int letter) {
        int goose = led(letter, false);
        if (goose == NONE) {
            return NONE;
        }
        return now.ofGoose(goose, THEN) + now.ofMarket(now.ofGoose(goose, MARKET), WAY);
    }

    public int plucks(int goose) {
        int feathers = now.ofGoose(goose, FEATHERS);
        for (int less = 0; less <= feathers; less++) {
            if (laws.isTrueWith(now, goose, feathers - less)) {
                return less;
            }
        }
        return NONE;
    }

    public long odds(int letter, int who, boolean low) {
        if (!isLetter(letter) || who < 0 || who > 2) {
            return NONE;
        }
        chances.begin(halvesHad(letter, false, LAST_DAY, GEESE), halvesHad(letter, true, LAST_DAY, GEESE));
        for (int goose = 0; goose < now.gooseCount; goose++) {
            if (now.ofGoose(goose, FATE) == ON_WAY && now.ofGoose(goose, LETTER) == letter) {
                chances.add(now, laws, goose);
            }
        }
        if (chances.count > Chances.MOST) {
            return NONE;
        }
        long upper = chances.upper(who);
        long common = commonDivisor(chances.total, upper);
        return (low ? chances.total : upper) / common;
    }

    public int plan(int letter, int p, int goose) {
        if (!isLetter(letter) || p < 1 || p > 100 || goose != NONE && !now.hasGoose(goose)) {
            return OTHER;
        }
        int size = search.fewest(now, laws, letter, p);
        if (size == 0) {
            return OTHER;
        }
        return goose == NONE ? size : search.choiceOf(goose);
    }

    public int holds() {
        int need = now.dailyNeed();
        if (need < 1) {
            return LAST_DAY;
        }
        return Math.min(LAST_DAY, now.grain / need);
    }

    public int image() {
        kept.copyFrom(now);
        return now.day;
    }

    public int back() {
        now.copyFrom(kept);
        return now.day;
    }

    public int about(int what) {
        switch (what) {
            case 0: return now.marketCount;
            case 1: return now.gooseCount;
            case 2: return now.grain;
            case 3: return now.mouths;
            case 4: return now.day;
            case 5: return now.x;
            case 6: return now.textCount;
            case 7: return now.ruling;
            case 8: return now.stepCount;
            case 9: return tape.length;
            default: return aboutMany(what);
        }
    }

    private int aboutMany(int what) {
        if (what >= 20 && what < 20 + FATES) {
            return now.countFate(what - 20);
        }
        if (what < 10 || what >= 10 + now.marketCount) {
            return OTHER;
        }
        int market = what - 10;
        return now.ofMarket(market, WAY) * 100 + now.ofMarket(market, GREED) * 10 + now.ofMarket(market, EYES);
    }

    private static boolean isDigit(int value) {
        return value >= 0 && value <= 9;
    }

    private static boolean isLetter(int letter) {
        return letter >= 0 && letter < LETTERS;
    }

    private static boolean isQuill(int letter, int part) {
        return isLetter(letter) && part >= 0 && part < PARTS;
    }

    /** A whole letter counts as both its halves. */
    private static int halvesOf(int part) {
        if (part == 0) {
            return BOTH_HALVES;
        }
        return part == 1 || part == 2 ? part : 0;
    }

    private static long commonDivisor(long a, long b) {
        long upper = a;
        long lower = b;
        for (int i = 0; i < 200 && lower != 0; i++) {
            long rest = upper % lower;
            upper = lower;
            lower = rest;
        }
        return upper > 0 ? upper : 1;
    }

    private void passOneDay() {
        now.day++;
        for (int goose = 0; goose < now.gooseCount; goose++) {
            if (now.ofGoose(goose, FATE) == ON_WAY && now.ofGoose(goose, THERE) == now.day) {
                now.settle(goose, fateAtMarket(goose));
            }
        }
        now.eatDaily();
    }

    private int fateAtMarket(int goose) {
        laws.lookAtTraveller(now, goose);
        if (now.draw() >= laws.rule(now, BUTCHER)) {
            return FRIENDS;
        }
        if (now.ofGoose(goose, LETTER) == NONE) {
            return EATEN;
        }
        return now.draw() < laws.rule(now, READER) ? READ : EATEN;
    }

    /** Whether a GOOSE tells its letter to THE ENEMY, or to FRIENDS, who believe TRUE ones alone. */
    private boolean tells(int goose, int letter, boolean enemy) {
        if (now.ofGoose(goose, LETTER) != letter) {
            return false;
        }
        if (enemy) {
            return now.ofGoose(goose, FATE) == READ;
        }
        return now.ofGoose(goose, FATE) == FRIENDS && laws.isTrue(now, goose);
    }

    /** The halves had of a letter by GEESE till a day; on that day itself by those below a number. */
    private int halvesHad(int letter, boolean enemy, int day, int below) {
        int halves = 0;
        for (int goose = 0; goose < now.gooseCount; goose++) {
            int then = now.ofGoose(goose, THEN);
            if ((then < day || then == day && goose < below) && tells(goose, letter, enemy)) {
                halves |= halvesOf(now.ofGoose(goose, PART));
            }
        }
        return halves;
    }

    /** All that an image keeps, so that going back is one copy. */
    private static final class State {
        private static final int STEPS = 20;
        private static final int GEESE_CELLS = GEESE * GOOSE_FIELDS;
        private static final int ROW = GEESE_CELLS + 4;

        final int[] geese = new int[GEESE_CELLS];
        final int[] markets = new int[MARKETS * MARKET_FIELDS];
        final int[] steps = new int[STEPS * ROW];
        int gooseCount = 0;
        int marketCount = 0;
        int grain = 0;
        int mouths = 0;
        int day = 0;
        int x = 9;
        int textCount = 0;
        int ruling = NONE;
        int firstStep = 0;
        int stepCount = 0;

        void copyFrom(State other) {
            System.arraycopy(other.geese, 0, geese, 0, geese.length);
            System.arraycopy(other.markets, 0, markets, 0, markets.length);
            System.arraycopy(other.steps, 0, steps, 0, steps.length);
            gooseCount = other.gooseCount;
            marketCount = other.marketCount;
            grain = other.grain;
            mouths = other.mouths;
            day = other.day;
            x = other.x;
            textCount = other.textCount;
            ruling = other.ruling;
            firstStep = other.firstStep;
            stepCount = other.stepCount;
        }

        boolean hasGoose(int goose) {
            return goose >= 0 && goose < gooseCount && goose < GEESE;
        }

        boolean hasMarket(int market) {
            return market >= 0 && market < marketCount && market < MARKETS;
        }

        int ofGoose(int goose, int field) {
            if (goose < 0 || goose >= gooseCount || goose >= GEESE || field < 0 || field >= GOOSE_FIELDS) {
                return NONE;
            }
            return geese[goose * GOOSE_FIELDS + field];
        }

        void setGoose(int goose, int field, int value) {
            if (hasGoose(goose) && field >= 0 && field < GOOSE_FIELDS) {
                geese[goose * GOOSE_FIELDS + field] = value;
            }
        }

        int ofMarket(int market, int field) {
            if (market < 0 || market >= marketCount || market >= MARKETS || field < 0 || field >= MARKET_FIELDS) {
                return 0;
            }
            return markets[market * MARKET_FIELDS + field];
        }

        int addMarket(int way, int greed, int eyes) {
            if (marketCount >= MARKETS) {
                return NONE;
            }
            int at = marketCount * MARKET_FIELDS;
            markets[at + WAY] = way;
            markets[at + GREED] = greed;
            markets[at + EYES] = eyes;
            marketCount++;
            return marketCount - 1;
        }

        int addGoose(int weight, int feathers) {
            if (gooseCount >= GEESE) {
                return NONE;
            }
            int goose = gooseCount;
            gooseCount++;
            setGoose(goose, WEIGHT, weight);
            setGoose(goose, FEATHERS, feathers);
            setGoose(goose, LETTER, NONE);
            setGoose(goose, PART, NONE);
            setGoose(goose, FATE, HOME);
            setGoose(goose, MARKET, NONE);
            setGoose(goose, THERE, NONE);
            setGoose(goose, THEN, NONE);
            setGoose(goose, NAMED, 0);
            return goose;
        }

        boolean isHome(int goose) {
            return ofGoose(goose, FATE) == HOME;
        }

        /** HOME and not NAMED: such ones alone are sent, named or eaten at home. */
        boolean isFree(int goose) {
            return isHome(goose) && ofGoose(goose, NAMED) == 0;
        }

        void settle(int goose, int fate) {
            setGoose(goose, FATE, fate);
            setGoose(goose, THEN, day);
        }

        int countFate(int fate) {
            int count = 0;
            for (int goose = 0; goose < gooseCount; goose++) {
                if (ofGoose(goose, FATE) == fate) {
                    count++;
                }
            }
            return count;
        }

        int dailyNeed() {
            return mouths + countFate(HOME);
        }

        void eatDaily() {
            int need = dailyNeed();
            if (need <= grain) {
                grain -= need;
                return;
            }
            grain = 0;
            for (int goose = 0; goose < gooseCount; goose++) {
                if (isFree(goose)) {
                    settle(goose, EATEN_HOME);
                    grain = ofGoose(goose, WEIGHT);
                    return;
                }
            }
        }

        int draw() {
            int drawn = x % 10;
            x = (x * 157 + 61) % 30071;
            return drawn;
        }

        void keepStep() {
            if (stepCount < STEPS) {
                stepCount++;
            } else {
                firstStep = (firstStep + 1) % STEPS;
            }
            int at = (firstStep + stepCount - 1) % STEPS * ROW;
            if (at < 0 || at + ROW > steps.length) {
                return;
            }
            System.arraycopy(geese, 0, steps, at, GEESE_CELLS);
            steps[at + GEESE_CELLS] = gooseCount;
            steps[at + GEESE_CELLS + 1] = grain;
            steps[at + GEESE_CELLS + 2] = day;
            steps[at + GEESE_CELLS + 3] = x;
        }

        boolean takeStepBack() {
            int at = (firstStep + stepCount - 1) % STEPS * ROW;
            if (stepCount < 1 || at < 0 || at + ROW > steps.length) {
                return false;
            }
            stepCount--;
            // GEESE told since the step have no place in its row: they stay.
            int cells = Math.min(GEESE_CELLS, Math.max(0, steps[at + GEESE_CELLS] * GOOSE_FIELDS));
            System.arraycopy(steps, at, geese, 0, cells);
            grain = steps[at + GEESE_CELLS + 1];
            day = steps[at + GEESE_CELLS + 2];
            x = steps[at + GEESE_CELLS + 3];
            return true;
        }
    }

    /** The bytes that were fed. */
    private static final class Tape {
        final int[] bytes = new int[TAPE_BYTES];
        int length = 0;

        void addFour(int word) {
            for (int shift = 24; shift >= 0; shift -= 8) {
                if (length < bytes.length) {
                    bytes[length] = (word >> shift) & 255;
                    length++;
                }
            }
        }

        /** 0, which is no sign of any TOKEN, behind the end. */
        int byteAt(int at) {
            return at >= 0 && at < length && at < bytes.length ? bytes[at] : 0;
        }
    }

    /** The TOKENS of a tape, the end being the last of them, and the one that is come to. */
    private static final class Tokens {
        private final int[] kinds = new int[TAPE_BYTES + 1];
        private final int[] starts = new int[TAPE_BYTES + 1];
        private final int[] values = new int[TAPE_BYTES + 1];
        private int count = 0;
        private int at = 0;

        void split(Tape tape) {
            at = 0;
            count = 0;
            int next = 0;
            for (int i = 0; i < TAPE_BYTES && next < tape.length; i++) {
                int first = tape.byteAt(next);
                if (isBlank(first)) {
                    next++;
                } else if (isAlpha(first)) {
                    next = splitWord(tape, next);
                } else if (isNumeral(first)) {
                    next = splitNumber(tape, next);
                } else {
                    next = splitSign(tape, next);
                }
            }
            add(END_TOKEN, tape.length, 0);
        }

        int kind() {
            return at < count && at < kinds.length ? kinds[at] : END_TOKEN;
        }

        int start() {
            return at < count && at < starts.length ? starts[at] : 0;
        }

        int value() {
            return at < count && at < values.length ? values[at] : 0;
        }

        void advance() {
            if (at < count - 1) {
                at++;
            }
        }

        private void add(int kind, int start, int value) {
            if (count < kinds.length && count < starts.length && count < values.length) {
                kinds[count] = kind;
                starts[count] = start;
                values[count] = value;
                count++;
            }
        }

        private int splitWord(Tape tape, int start) {
            int next = start;
            while (next < tape.length && isAlpha(tape.byteAt(next))) {
                next++;
            }
            add(wordKind(tape, start, next - start), start, 0);
            return next;
        }

        private static int wordKind(Tape tape, int start, int size) {
            int found = BUTCHER_WORD;
            int from = 0;
            boolean same = true;
            for (int i = 0; i < WORDS.length(); i++) {
                char sign = WORDS.charAt(i);
                if (sign != ' ') {
                    same = same && i - from < size && tape.byteAt(start + i - from) == sign;
                } else if (same && i - from == size) {
                    return found;
                } else {
                    found++;
                    from = i + 1;
                    same = true;
                }
            }
            return BAD_TOKEN;
        }

        private int splitNumber(Tape tape, int start) {
            int next = start;
            int value = 0;
            while (next < tape.length && isNumeral(tape.byteAt(next))) {
                // A long row of digits must not wrap round into the numbers that are told.
                value = Math.min(NUMBER_MOST + 1, value * 10 + tape.byteAt(next) - '0');
                next++;
            }
            add(NUMBER, start, value);
            return next;
        }

        private int splitSign(Tape tape, int start) {
            int kind = signKind(tape.byteAt(start));
            boolean longer = (kind == LESS || kind == MORE) && tape.byteAt(start + 1) == '=';
            if (longer) {
                kind = kind == LESS ? LESS_EQUAL : MORE_EQUAL;
            }
            add(kind, start, 0);
            return longer ? start + 2 : start + 1;
        }

        private static int signKind(int sign) {
            switch (sign) {
                case '<': return LESS;
                case '>': return MORE;
                case '=': return EQUAL;
                case '#': return UNLIKE;
                case '+': return PLUS;
                case '-': return MINUS;
                case '*': return TIMES;
                case '/': return OVER;
                case '(': return OPEN;
                case ')': return CLOSE;
                case ';': return SEMICOLON;
                default: return BAD_TOKEN;
            }
        }

        private static boolean isBlank(int sign) {
            return sign == 32 || sign == 10;
        }

        private static boolean isAlpha(int sign) {
            return sign >= 'a' && sign <= 'z' || sign >= 'A' && sign <= 'Z';
        }

        private static boolean isNumeral(int sign) {
            return sign >= '0' && sign <= '9';
        }
    }

    /** A TEXT as it is used: its CLAUSES, and its laws with each operation behind what it works on. */
    private static final class Text {
        final int[] clauses = new int[CLAUSES * CLAUSE_FIELDS];
        int clauseCount = 0;
        private final int[] steps = new int[TAPE_BYTES];
        private final int[] from = new int[LAWS];
        private final int[] to = new int[LAWS];
        private int stepCount = 0;

        void clear() {
            clauseCount = 0;
            stepCount = 0;
            for (int law = 0; law < LAWS; law++) {
                from[law] = NONE;
                to[law] = NONE;
            }
        }

        boolean hasLaw(int law) {
            return law >= 0 && law < LAWS && from[law] != NONE;
        }

        void beginLaw(int law) {
            if (law >= 0 && law < LAWS) {
                from[law] = stepCount;
            }
        }

        void closeLaw(int law) {
            if (law >= 0 && law < LAWS) {
                to[law] = stepCount;
            }
        }

        int firstStep(int law) {
            return law >= 0 && law < LAWS ? from[law] : 0;
        }

        int stepsEnd(int law) {
            return law >= 0 && law < LAWS ? to[law] : 0;
        }

        void addStep(int step) {
            if (stepCount < steps.length) {
                steps[stepCount] = step;
                stepCount++;
            }
        }

        int stepAt(int at) {
            return at >= 0 && at < stepCount && at < steps.length ? steps[at] : 0;
        }

        int clauseField(int clause, int field) {
            if (clause < 0 || clause >= CLAUSES || field < 0 || field >= CLAUSE_FIELDS) {
                return NONE;
            }
            return clauses[clause * CLAUSE_FIELDS + field];
        }

        void setClause(int clause, int field, int value) {
            if (clause >= 0 && clause < CLAUSES && field >= 0 && field < CLAUSE_FIELDS) {
                clauses[clause * CLAUSE_FIELDS + field] = value;
            }
        }
    }

    /** Reads TOKENS into a TEXT, up to the first FAULT. */
    private static final class Parser {
        private static final int EITHER = 0;
        private static final int BOTH = 1;
        private static final int ASK = 2;
        private static final int SUM = 3;
        private static final int PRODUCT = 4;
        private static final int ONE = 5;
        private static final int OPEN_MOST = 8;

        int fault = NONE;
        int place = NONE;
        private int law = NONE;

        void parse(Tokens tokens, Text text) {
            fault = 0;
            place = NONE;
            text.clear();
            for (int i = 0; i <= CLAUSES && fault == 0 && tokens.kind() != END_TOKEN; i++) {
                readClause(tokens, text);
            }
        }

        private void fail(Tokens tokens, int what) {
            if (fault == 0) {
                fault = what;
                place = tokens.start();
            }
        }

        private void readClause(Tokens tokens, Text text) {
            int word = tokens.kind();
            law = word - BUTCHER_WORD;
            if (word < BUTCHER_WORD || word > PASS_WORD) {
                fail(tokens, CANNOT_STAND);
            } else if (text.hasLaw(law)) {
                fail(tokens, SECOND_LAW);
            } else if (text.clauseCount >= CLAUSES) {
                fail(tokens, TOO_MANY);
            } else {
                text.setClause(text.clauseCount, 0, word);
                tokens.advance();
                if (law < LAWS) {
                    text.beginLaw(law);
                    readLevel(tokens, text, law == CODE ? EITHER : SUM, 0);
                    text.closeLaw(law);
                } else {
                    readDeed(tokens, text, word);
                }
                expect(tokens, SEMICOLON);
                text.clauseCount++;
            }
        }

        private void readDeed(Tokens tokens, Text text, int word) {
            if (word == PASS_WORD) {
                readNumber(tokens, text, 1, 1, 99);
                return;
            }
            readNumber(tokens, text, 1, 0, GEESE - 1);
            if (word == FILL_WORD) {
                expect(tokens, WITH_WORD);
                readNumber(tokens, text, 2, 0, LETTERS - 1);
                expect(tokens, PART_WORD);
                readNumber(tokens, text, 3, 0, PARTS - 1);
            } else if (word == SEND_WORD) {
                expect(tokens, TO_WORD);
                readNumber(tokens, text, 2, 0, MARKETS - 1);
            }
        }

        private void expect(Tokens tokens, int kind) {
            if (fault != 0) {
                return;
            }
            if (tokens.kind() == kind) {
                tokens.advance();
            } else {
                fail(tokens, CANNOT_STAND);
            }
        }

        private void readNumber(Tokens tokens, Text text, int field, int least, int most) {
            if (fault != 0) {
                return;
            }
            if (tokens.kind() != NUMBER) {
                fail(tokens, CANNOT_STAND);
            } else if (tokens.value() < least || tokens.value() > most) {
                fail(tokens, WRONG_NUMBER);
            } else {
                text.setClause(text.clauseCount, field, tokens.value());
                tokens.advance();
            }
        }

        /** open: how many of ( not and - stand open around this. */
        private void readLevel(Tokens tokens, Text text, int level, int open) {
            if (level == ASK) {
                readAsk(tokens, text, open);
                return;
            }
            if (level == ONE) {
                readOne(tokens, text, open);
                return;
            }
            readLevel(tokens, text, level + 1, open);
            for (int i = 0; i < TAPE_BYTES && fault == 0 && levelOf(tokens.kind()) == level; i++) {
                int work = tokens.kind();
                tokens.advance();
                readLevel(tokens, text, level + 1, open);
                text.addStep(WORK_STEP + work);
            }
        }

        private static int levelOf(int kind) {
            switch (kind) {
                case OR_WORD: return EITHER;
                case AND_WORD: return BOTH;
                case PLUS: return SUM;
                case MINUS: return SUM;
                case TIMES: return PRODUCT;
                case OVER: return PRODUCT;
                default: return NONE;
            }
        }

        private void readAsk(Tokens tokens, Text text, int open) {
            if (tokens.kind() == NOT_WORD) {
                if (opens(tokens, open)) {
                    readAsk(tokens, text, open + 1);
                    text.addStep(WORK_STEP + NOT_WORD);
                }
                return;
            }
            readLevel(tokens, text, SUM, open);
            int work = tokens.kind();
            if (work < LESS || work > UNLIKE) {
                fail(tokens, CANNOT_STAND);
            }
            if (fault == 0) {
                tokens.advance();
                readLevel(tokens, text, SUM, open);
                text.addStep(WORK_STEP + work);
            }
        }

        private void readOne(Tokens tokens, Text text, int open) {
            int kind = tokens.kind();
            if (kind == NUMBER) {
                readValue(tokens, text);
            } else if (kind >= GOOSE_WORD && kind <= EYES_WORD) {
                readName(tokens, text);
            } else if (kind == OPEN) {
                if (opens(tokens, open)) {
                    readLevel(tokens, text, SUM, open + 1);
                    expect(tokens, CLOSE);
                }
            } else if (kind == MINUS) {
                if (opens(tokens, open)) {
                    readOne(tokens, text, open + 1);
                    text.addStep(WORK_STEP + NEGATE);
                }
            } else {
                fail(tokens, CANNOT_STAND);
            }
        }

        private boolean opens(Tokens tokens, int open) {
            if (open >= OPEN_MOST) {
                fail(tokens, TOO_DEEP);
                return false;
            }
            tokens.advance();
            return true;
        }

        private void readValue(Tokens tokens, Text text) {
            if (tokens.value() > NUMBER_MOST) {
                fail(tokens, WRONG_NUMBER);
                return;
            }
            text.addStep(tokens.value());
            tokens.advance();
        }

        private void readName(Tokens tokens, Text text) {
            if (tokens.kind() >= MARKET_WORD && law != BUTCHER && law != READER) {
                fail(tokens, STRANGE_NAME);
                return;
            }
            text.addStep(NAME_STEP + tokens.kind() - GOOSE_WORD);
            tokens.advance();
        }
    }

    /** The TEXTS, and what THE TEXT says of a GOOSE that is looked at. */
    private static final class Laws {
        private static final int MOST = 1000000;
        // Eight brackets hold two values each, and a SUM, an ASK and those around it a few more.
        private static final int STACK = 40;

        private final Text[] texts = new Text[TEXTS];
        private final int[] names = new int[NAMES];
        private final int[] stack = new int[STACK];
        private int top = 0;

        Laws() {
            for (int i = 0; i < TEXTS; i++) {
                texts[i] = new Text();
            }
        }

        Text textOf(int text) {
            return text >= 0 && text < TEXTS ? texts[text] : null;
        }

        void lookAt(State state, int goose) {
            names[GOOSE_NAME] = goose;
            names[WEIGHT_NAME] = state.ofGoose(goose, WEIGHT);
            names[FEATHERS_NAME] = state.ofGoose(goose, FEATHERS);
            names[LETTER_NAME] = state.ofGoose(goose, LETTER);
            names[PART_NAME] = state.ofGoose(goose, PART);
            names[DAY_NAME] = state.day;
        }

        void lookAtFilled(State state, int goose, int letter, int part) {
            lookAt(state, goose);
            names[LETTER_NAME] = letter;
            names[PART_NAME] = part;
        }

        void lookAtMarket(State state, int market, int there) {
            names[DAY_NAME] = there;
            names[MARKET_NAME] = market;
            names[GREED_NAME] = state.ofMarket(market, GREED);
            names[EYES_NAME] = state.ofMarket(market, EYES);
        }

        void lookAtTraveller(State state, int goose) {
            lookAt(state, goose);
            lookAtMarket(state, state.ofGoose(goose, MARKET), state.ofGoose(goose, THERE));
        }

        int inkCost(State state, int goose, int letter, int part) {
            lookAtFilled(state, goose, letter, part);
            return rule(state, INK);
        }

        boolean isTrue(State state, int goose) {
            lookAt(state, goose);
            return rule(state, CODE) != 0;
        }

        boolean isTrueWith(State state, int goose, int feathers) {
            lookAt(state, goose);
            names[FEATHERS_NAME] = feathers;
            return rule(state, CODE) != 0;
        }

        /** What a law says of the GOOSE (and the MARKET) that is looked at. */
        int rule(State state, int law) {
            Text text = textOf(state.ruling);
            if (text == null || !text.hasLaw(law)) {
                return without(law);
            }
            top = 0;
            int end = text.stepsEnd(law);
            for (int i = text.firstStep(law); i < end; i++) {
                take(text.stepAt(i));
            }
            return Math.max(0, Math.min(law == INK ? 99 : 10, pop()));
        }

        private int without(int law) {
            switch (law) {
                case BUTCHER: return names[GREED_NAME];
                case READER: return names[EYES_NAME];
                default: return 1;
            }
        }

        private void take(int step) {
            if (step < NAME_STEP) {
                push(step);
            } else if (step < WORK_STEP) {
                int at = step - NAME_STEP;
                push(at < NAMES ? names[at] : 0);
            } else {
                int right = pop();
                switch (step - WORK_STEP) {
                    case NEGATE: push(-right); break;
                    case NOT_WORD: push(1 - right); break;
                    default: push(joined(step - WORK_STEP, pop(), right)); break;
                }
            }
        }

        private void push(long value) {
            if (top >= 0 && top < stack.length) {
                stack[top] = value > MOST ? MOST : value < -MOST ? -MOST : (int) value;
                top++;
            }
        }

        private int pop() {
            if (top < 1 || top > stack.length) {
                return 0;
            }
            top--;
            return stack[top];
        }

        private static long joined(int work, long left, long right) {
            switch (work) {
                case PLUS: return left + right;
                case MINUS: return left - right;
                case TIMES: return left * right;
                case OVER: return right == 0 ? 0 : left / right;
                case LESS: return left < right ? 1 : 0;
                case LESS_EQUAL: return left <= right ? 1 : 0;
                case MORE: return left > right ? 1 : 0;
                case MORE_EQUAL: return left >= right ? 1 : 0;
                case EQUAL: return left == right ? 1 : 0;
                case UNLIKE: return left != right ? 1 : 0;
                case AND_WORD: return left & right;
                default: return left | right;
            }
        }
    }

    /** How likely each pair of what FRIENDS and THE ENEMY have of one letter is, in parts of total. */
    private static final class Chances {
        static final int MOST = 8;
        private static final int SIDES = 4;

        int count = 0;
        long total = 1;
        private final long[] weights = new long[SIDES * SIDES];
        private final long[] fresh = new long[SIDES * SIDES];

        void begin(int friends, int enemy) {
            count = 0;
            total = 1;
            for (int i = 0; i < weights.length; i++) {
                weights[i] = i == friends * SIDES + enemy ? 1 : 0;
            }
        }

        void add(State state, Laws laws, int goose) {
            count++;
            if (count > MOST) {
                return;
            }
            int halves = halvesOf(state.ofGoose(goose, PART));
            int told = laws.isTrue(state, goose) ? halves : 0;
            laws.lookAtTraveller(state, goose);
            int butcher = laws.rule(state, BUTCHER);
            int read = butcher * laws.rule(state, READER);
            int friends = (10 - butcher) * 10;
            for (int i = 0; i < fresh.length; i++) {
                fresh[i] = weights[i] * (100 - friends - read);
            }
            for (int i = 0; i < weights.length; i++) {
                fresh[i | told * SIDES] += weights[i] * friends;
                fresh[i | halves] += weights[i] * read;
            }
            System.arraycopy(fresh, 0, weights, 0, weights.length);
            total *= 100;
        }

        long upper(int who) {
            long sum = 0;
            for (int i = 0; i < weights.length; i++) {
                boolean friends = i / SIDES == BOTH_HALVES;
                boolean enemy = i % SIDES == BOTH_HALVES;
                if (who == 0 ? friends : who == 1 ? enemy : friends && !enemy) {
                    sum += weights[i];
                }
            }
            return sum;
        }
    }

    /** Looks for a PLAN. */
    private static final class Search {
        private static final int SIZE_MOST = 3;
        // Behind the markets stands the best of them all, by which hopeless sets are left out early.
        private static final int BEST = MARKETS;
        private static final int CHOICES = MARKETS + 1;
        // Parts, a digit a goose, by which each goose helps: with an idle one fewer GEESE would do.
        private static final int[] PATTERNS = {0, 12, 21, 102, 120, 201, 210, 112, 121, 211, 122, 212, 221};
        private static final int[] PATTERN_COUNTS = {0, 1, 3, 13};

        private final int[] friends = new int[GEESE * PARTS * CHOICES];
        private final int[] reads = new int[GEESE * PARTS * CHOICES];
        private final boolean[] ready = new boolean[GEESE];
        private final int[] set = new int[SIZE_MOST];
        private final int[] parts = new int[SIZE_MOST];
        private final int[] markets = new int[SIZE_MOST];
        private final int[] bestSet = new int[SIZE_MOST];
        private final int[] bestChoice = new int[SIZE_MOST];
        private int size = 0;
        private long scale = 1;
        private int percent = 0;
        private int marketCount = 0;
        private boolean found = false;
        private boolean foundInSet = false;
        private long bestMiss = 0;
        private int bestOrder = 0;

        /** The size of the PLAN; 0 if there is none. */
        int fewest(State state, Laws laws, int letter, int p) {
            percent = p;
            scale = 1;
            found = false;
            marketCount = Math.min(MARKETS, state.marketCount);
            for (int goose = 0; goose < GEESE; goose++) {
                ready[goose] = state.isFree(goose) && state.ofGoose(goose, LETTER) == NONE;
                if (ready[goose]) {
                    weighGoose(state, laws, goose, letter);
                }
            }
            for (int i = 1; i <= SIZE_MOST; i++) {
                size = i;
                scale *= 100;
                tryGeese(0, 0);
                if (found) {
                    return size;
                }
            }
            return 0;
        }

        int choiceOf(int goose) {
            for (int i = 0; i < size && i < SIZE_MOST; i++) {
                if (bestSet[i] == goose) {
                    return bestChoice[i];
                }
            }
            return NONE;
        }

        private static int cell(int goose, int part, int market) {
            return (goose * PARTS + part) * CHOICES + market;
        }

        private void weighGoose(State state, Laws laws, int goose, int letter) {
            for (int part = 0; part < PARTS; part++) {
                laws.lookAtFilled(state, goose, letter, part);
                boolean isTrue = laws.rule(state, CODE) != 0;
                int best = cell(goose, part, BEST);
                friends[best] = 0;
                reads[best] = 100;
                for (int market = 0; market < marketCount; market++) {
                    laws.lookAtMarket(state, market, state.day + state.ofMarket(market, WAY));
                    int butcher = laws.rule(state, BUTCHER);
                    int at = cell(goose, part, market);
                    friends[at] = isTrue ? (10 - butcher) * 10 : 0;
                    reads[at] = butcher * laws.rule(state, READER);
                    friends[best] = Math.max(friends[best], friends[at]);
                    reads[best] = Math.min(reads[best], reads[at]);
                }
            }
        }

        private void tryGeese(int chosen, int from) {
            if (chosen >= size || chosen >= SIZE_MOST) {
                tryPatterns();
                return;
            }
            for (int goose = from; goose < GEESE; goose++) {
                if (ready[goose]) {
                    set[chosen] = goose;
                    tryGeese(chosen + 1, goose + 1);
                }
            }
        }

        private void tryPatterns() {
            foundInSet = false;
            int count = size >= 0 && size < PATTERN_COUNTS.length ? PATTERN_COUNTS[size] : 0;
            for (int i = 0; i < count && i < PATTERNS.length; i++) {
                int digits = PATTERNS[i];
                for (int at = Math.min(size, SIZE_MOST) - 1; at >= 0; at--) {
                    parts[at] = digits % 10;
                    digits /= 10;
                    markets[at] = BEST;
                }
                if (isEnough(missOf(friends)) && (foundInSet || isBetter(missOf(reads)))) {
                    tryMarkets(0);
                }
            }
        }

        private void tryMarkets(int chosen) {
            if (chosen >= size || chosen >= SIZE_MOST) {
                compare();
                return;
            }
            for (int market = 0; market < marketCount; market++) {
                markets[chosen] = market;
                tryMarkets(chosen + 1);
            }
        }

        private boolean isEnough(long miss) {
            return (scale - miss) * 100 >= percent * scale;
        }

        /** In parts of scale: that they come neither to the whole letter nor to both halves. */
        private long missOf(int[] chances) {
            long whole = 1;
            long first = 1;
            long firstAll = 1;
            long second = 1;
            long secondAll = 1;
            for (int i = 0; i < size && i < SIZE_MOST; i++) {
                int at = (set[i] * PARTS + parts[i]) * CHOICES + markets[i];
                int miss = at >= 0 && at < chances.length ? 100 - chances[at] : 100;
                if (parts[i] == 0) {
                    whole *= miss;
                } else if (parts[i] == 1) {
                    first *= miss;
                    firstAll *= 100;
                } else {
                    second *= miss;
                    secondAll *= 100;
                }
            }
            return whole * (firstAll * secondAll - (firstAll - first) * (secondAll - second));
        }

        private boolean isBetter(long miss) {
            return !found || miss > bestMiss;
        }

        private void compare() {
            if (!isEnough(missOf(friends))) {
                return;
            }
            long miss = missOf(reads);
            int order = 0;
            for (int i = 0; i < size && i < SIZE_MOST; i++) {
                order = order * 100 + markets[i] * 10 + parts[i];
            }
            // Sets come from the lowest up, so of like ones a later set is never better.
            if (isBetter(miss) || foundInSet && miss == bestMiss && order < bestOrder) {
                keep(miss, order);
            }
        }

        private void keep(long miss, int order) {
            found = true;
            foundInSet = true;
            bestMiss = miss;
            bestOrder = order;
            for (int i = 0; i < size && i < SIZE_MOST; i++) {
                bestSet[i] = set[i];
                bestChoice[i] = markets[i] * 10 + parts[i];
            }
        }
    }
}
