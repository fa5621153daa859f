/**
 * The limits of section III and of promises 21 to 26: what is known on which day, by which goose, answers, plucks, odds
 * and plans. Each test's comment is the document's own words.
 */
public final class KnownEdgesTest {
    public static void main(String[] args) {
        knownOthers();
        ledOthers();
        answerOthers();
        thenOnTheDay();
        knownOnTheLastDay();
        halvesAndWholes();
        friendsByTrueOnes();
        enemyByAny();
        notByOtherFates();
        ledByThen();
        ledByNumber();
        ledByTheOtherHalf();
        answerOfItsMarket();
        answerBeyondTheLastDay();
        plucksOthers();
        plucksOfAllFeathers();
        plucksOfAnyFate();
        oddsOthers();
        oddsOfNone();
        oddsTillNow();
        oddsOfEight();
        oddsOfOneHalf();
        oddsAlone();
        lowestTerms();
        planOthers();
        planOfGooseNumbers();
        planOfOneGoose();
        planOfThree();
        planExactly();
        planWithoutGrain();
        planWithoutGeeseOrMarkets();
        planLeastRead();
        planLowestSet();
        planLowestOfUnlikeSets();
        planLowestChoice();
        planByTheseAlone();
        planBeyondTheLastDay();
        Check.finish();
    }

    private static final int[] WILD = {Integer.MIN_VALUE, -1000, -2, -1, 6, 7, 10, 1000, Integer.MAX_VALUE};

    private static void due(String what, long got, long want) {
        Check.due(what, got, want);
    }

    /**
     * Market 0: friends buy all, a day's way; market 1: all is eaten and read, a day's way; market 2 and 3 as these, two
     * days' way. Text 0 rules so.
     */
    private static GooseLetters town(int geese) {
        GooseLetters x = new GooseLetters();
        x.market(1, 5, 5);
        x.market(1, 5, 5);
        x.market(2, 5, 5);
        x.market(2, 5, 5);
        Check.text(x, "butcher (market-market/2*2)*10; reader 10;");
        x.by(0);
        for (int i = 0; i < geese; i++) {
            x.goose(5, 10 + i);
        }
        x.store(9999, 0);
        return x;
    }

    private static void go(GooseLetters x, int goose, int letter, int part, int market) {
        x.fill(goose, letter, part);
        x.send(goose, market);
    }

    /** KNOWN on a DAY .. NONE for others. */
    private static void knownOthers() {
        GooseLetters x = new GooseLetters();
        for (int letter : WILD) {
            due("letter " + letter, x.known(letter, 0), -1);
        }
        for (int letter = 0; letter <= 5; letter++) {
            due("letter " + letter, x.known(letter, 0), 0);
        }
        for (int day : new int[] {-1, 1000, Integer.MIN_VALUE, Integer.MAX_VALUE}) {
            due("day " + day, x.known(0, day), -1);
        }
        for (int day : new int[] {0, 1, 998, 999}) {
            due("day " + day, x.known(0, day), 0);
        }
    }

    /** NONE: it isn't KNOWN, and for others. */
    private static void ledOthers() {
        GooseLetters x = town(2);
        go(x, 0, 0, 0, 0);
        go(x, 1, 5, 0, 1);
        for (int letter = 0; letter <= 5; letter++) {
            due("not yet " + letter, x.led(letter, false), -1);
            due("not yet " + letter, x.led(letter, true), -1);
        }
        x.pass(1);
        for (int letter : WILD) {
            due("letter " + letter, x.led(letter, false), -1);
            due("letter " + letter, x.led(letter, true), -1);
        }
        for (int letter = 0; letter <= 5; letter++) {
            due("friends " + letter, x.led(letter, false), letter == 0 ? 0 : -1);
            due("the enemy " + letter, x.led(letter, true), letter == 5 ? 1 : -1);
        }
    }

    /** NONE: FRIENDS don't know it, and for others. */
    private static void answerOthers() {
        GooseLetters x = town(3);
        go(x, 0, 0, 0, 0);
        go(x, 1, 5, 0, 2);
        go(x, 2, 3, 0, 1);
        due("not yet", x.answer(0), -1);
        x.pass(2);
        for (int letter : WILD) {
            due("letter " + letter, x.answer(letter), -1);
        }
        int[] answers = {2, -1, -1, -1, -1, 4};
        for (int letter = 0; letter <= 5; letter++) {
            due("letter " + letter, x.answer(letter), answers[letter]);
        }
        due("the enemy knows", x.known(3, 1), 2);
    }

    /** that are with them THEN on k or ahead of it */
    private static void thenOnTheDay() {
        GooseLetters x = town(2);
        x.pass(4);
        go(x, 0, 2, 0, 2);
        go(x, 1, 2, 0, 3);
        due("on its way", x.known(2, 6), 0);
        x.pass(2);
        due("a day ahead", x.known(2, 5), 0);
        due("on the day", x.known(2, 6), 3);
        due("a day behind", x.known(2, 7), 3);
        due("on day 0", x.known(2, 0), 0);
        x.pass(90);
        due("a day ahead", x.known(2, 5), 0);
        due("on the day", x.known(2, 6), 3);
    }

    /** DAY (0 .. 999): THEN may be the last */
    private static void knownOnTheLastDay() {
        GooseLetters x = town(0);
        for (int i = 0; i < 10; i++) {
            x.pass(99);
        }
        x.pass(8);
        x.goose(1, 1);
        x.goose(1, 1);
        x.store(9, 0);
        go(x, 0, 4, 0, 0);
        go(x, 1, 4, 0, 1);
        due("pass", x.pass(1), 999);
        due("on 998", x.known(4, 998), 0);
        due("on 999", x.known(4, 999), 3);
        due("beyond", x.known(4, 1000), -1);
        due("led", x.led(4, false), 0);
        due("answer", x.answer(4), 1000);
    }

    /** they have it whole, or both its halves */
    private static void halvesAndWholes() {
        for (int first = 0; first <= 2; first++) {
            for (int second = 0; second <= 2; second++) {
                GooseLetters x = town(4);
                go(x, 0, 1, first, 0);
                go(x, 1, 1, second, 0);
                go(x, 2, 1, first, 1);
                go(x, 3, 1, second, 1);
                x.pass(1);
                boolean known = first == 0 || second == 0 || first != second;
                due("parts " + first + " and " + second, x.known(1, 1), known ? 3 : 0);
                due("led", x.led(1, false), !known ? -1 : first == 0 ? 0 : 1);
                due("led the enemy", x.led(1, true), !known ? -1 : first == 0 ? 2 : 3);
            }
        }
        GooseLetters y = town(2);
        go(y, 0, 1, 1, 0);
        go(y, 1, 2, 2, 0);
        y.pass(1);
        due("halves of two letters", y.known(1, 1), 0);
        due("halves of two letters", y.known(2, 1), 0);
        GooseLetters z = town(2);
        go(z, 0, 1, 1, 0);
        go(z, 1, 1, 2, 1);
        z.pass(1);
        due("a half each", z.known(1, 1), 0);
    }

    /** by TRUE GEESE */
    private static void friendsByTrueOnes() {
        GooseLetters x = town(2);
        Check.text(x, "code feathers = 10;");
        go(x, 0, 0, 1, 0);
        go(x, 1, 0, 2, 0);
        x.pass(1);
        due("both are true", x.known(0, 1), 1);
        due("led", x.led(0, false), 1);
        x.by(1);
        due("one is not", x.known(0, 1), 0);
        due("led", x.led(0, false), -1);
        due("answer", x.answer(0), -1);
    }

    /** THE ENEMY by GEESE that are READ, TRUE or not */
    private static void enemyByAny() {
        GooseLetters x = town(1);
        Check.text(x, "code 1 = 2;");
        go(x, 0, 0, 0, 1);
        x.pass(1);
        x.by(1);
        due("not true", x.of(0, 9), 0);
        due("the enemy knows", x.known(0, 1), 2);
        due("led", x.led(0, true), 0);
    }

    /** by GEESE that are with them .. that are READ: not by HOME, on their WAY, EATEN, or EATEN at home */
    private static void notByOtherFates() {
        GooseLetters x = new GooseLetters();
        x.market(1, 9, 0);
        x.market(9, 0, 9);
        x.seed(1);
        for (int i = 0; i < 4; i++) {
            x.goose(9, 9);
        }
        x.store(50, 0);
        x.fill(0, 0, 0);
        x.fill(3, 3, 0);
        go(x, 1, 1, 0, 0);
        go(x, 2, 2, 0, 1);
        x.name(3);
        x.store(0, 9);
        x.pass(1);
        int[] fates = {5, 3, 1, 0};
        for (int goose = 0; goose < 4; goose++) {
            due("fate of " + goose, x.of(goose, 4), fates[goose]);
            due("letter " + goose, x.known(goose, 999), 0);
            due("led", x.led(goose, false), -1);
            due("led the enemy", x.led(goose, true), -1);
        }
    }

    /** LED: the GOOSE by which it came to be KNOWN (by THEN ..) */
    private static void ledByThen() {
        GooseLetters x = town(4);
        go(x, 0, 0, 0, 2);
        go(x, 1, 0, 0, 0);
        go(x, 2, 0, 0, 3);
        go(x, 3, 0, 0, 1);
        x.pass(2);
        due("the sooner one", x.led(0, false), 1);
        due("the sooner one", x.led(0, true), 3);
        due("answer", x.answer(0), 2);
    }

    /** of like ones by number */
    private static void ledByNumber() {
        GooseLetters x = town(10);
        for (int goose = 9; goose >= 2; goose--) {
            go(x, goose, 0, 0, goose < 6 ? 0 : 1);
        }
        x.pass(1);
        due("the lowest", x.led(0, false), 2);
        due("the lowest", x.led(0, true), 6);
    }

    /** the GOOSE by which it came to be KNOWN: that with the half that was missing */
    private static void ledByTheOtherHalf() {
        GooseLetters x = town(6);
        go(x, 5, 0, 1, 0);
        x.pass(1);
        go(x, 0, 0, 1, 0);
        go(x, 1, 0, 1, 0);
        x.pass(1);
        go(x, 4, 0, 2, 0);
        go(x, 2, 0, 1, 0);
        go(x, 3, 0, 2, 0);
        x.pass(1);
        due("led", x.led(0, false), 3);
        due("answer", x.answer(0), 4);
        due("known", x.known(0, 3), 1);
        due("a day ahead", x.known(0, 2), 0);
    }

    /** ANSWER: its THEN, and the WAY of its MARKET more */
    private static void answerOfItsMarket() {
        for (int way = 1; way <= 9; way++) {
            GooseLetters x = new GooseLetters();
            x.market(3, 0, 0);
            x.market(way, 0, 0);
            x.goose(1, 1);
            x.store(50, 0);
            x.pass(5);
            go(x, 0, 0, 0, 1);
            x.pass(9);
            due("answer by way " + way, x.answer(0), 5 + way + way);
        }
    }

    /** ANSWER: the DAY: it may be one that doesn't come */
    private static void answerBeyondTheLastDay() {
        GooseLetters x = new GooseLetters();
        x.market(9, 0, 0);
        for (int i = 0; i < 10; i++) {
            x.pass(99);
        }
        x.goose(1, 1);
        x.store(50, 0);
        go(x, 0, 0, 0, 0);
        due("pass", x.pass(9), 999);
        due("answer", x.answer(0), 1008);
    }

    /** NONE: none, and for others. */
    private static void plucksOthers() {
        GooseLetters x = new GooseLetters();
        due("no goose", x.plucks(0), -1);
        x.goose(1, 0);
        x.goose(1, 99);
        for (int goose : new int[] {-1, 2, 9, 10, Integer.MIN_VALUE, Integer.MAX_VALUE}) {
            due("goose " + goose, x.plucks(goose), -1);
        }
        due("true as it is", x.plucks(0), 0);
        due("true as it is", x.plucks(1), 0);
        Check.text(x, "code feathers < 0;");
        x.by(0);
        due("never", x.plucks(0), -1);
        due("never", x.plucks(1), -1);
    }

    /** the fewest FEATHERS less by which it would be TRUE */
    private static void plucksOfAllFeathers() {
        for (int want = 0; want <= 99; want += 9) {
            for (int has = 0; has <= 99; has += 9) {
                GooseLetters x = new GooseLetters();
                x.goose(1, has);
                Check.text(x, "code feathers = " + want + " or feathers = " + want + " / 2;");
                x.by(0);
                int less = has >= want ? has - want : has >= want / 2 ? has - want / 2 : -1;
                due("from " + has + " to " + want, x.plucks(0), less);
                due("feathers stay", x.of(0, 1), has);
            }
        }
    }

    /** PLUCKS of a GOOSE (whichever FATE it has) */
    private static void plucksOfAnyFate() {
        GooseLetters x = town(4);
        Check.text(x, "code feathers = 9;");
        go(x, 0, 0, 0, 0);
        go(x, 1, 0, 0, 1);
        x.pass(1);
        go(x, 2, 0, 0, 0);
        x.by(1);
        for (int goose = 0; goose < 4; goose++) {
            due("goose " + goose, x.plucks(goose), 1 + goose);
        }
    }

    /** NONE for others */
    private static void oddsOthers() {
        GooseLetters x = town(1);
        for (int letter : WILD) {
            due("letter " + letter, x.odds(letter, 0, false), -1);
            due("letter " + letter, x.odds(letter, 2, true), -1);
        }
        for (int who : new int[] {Integer.MIN_VALUE, -1, 3, Integer.MAX_VALUE}) {
            due("who " + who, x.odds(0, who, false), -1);
            due("who " + who, x.odds(0, who, true), -1);
        }
        for (int who = 0; who <= 2; who++) {
            for (int letter = 0; letter <= 5; letter++) {
                due("upper", x.odds(letter, who, false), 0);
                due("lower", x.odds(letter, who, true), 1);
            }
        }
    }

    private static void odds(GooseLetters x, int letter, int who, long upper, long lower) {
        due("odds of " + letter + " for " + who, x.odds(letter, who, false), upper);
        due("odds of " + letter + " for " + who + " low", x.odds(letter, who, true), lower);
    }

    /** of all GEESE with it .. that are on their WAY: there may be none */
    private static void oddsOfNone() {
        GooseLetters x = town(3);
        x.fill(0, 0, 0);
        odds(x, 0, 0, 0, 1);
        x.send(1, 0);
        odds(x, 0, 0, 0, 1);
        go(x, 2, 1, 0, 0);
        odds(x, 0, 0, 0, 1);
        odds(x, 1, 0, 1, 1);
        odds(x, 1, 1, 0, 1);
        odds(x, 1, 2, 1, 1);
    }

    /** what has been KNOWN till now is */
    private static void oddsTillNow() {
        GooseLetters x = town(6);
        go(x, 0, 0, 0, 0);
        go(x, 1, 1, 0, 1);
        go(x, 2, 2, 0, 0);
        go(x, 3, 2, 0, 1);
        x.pass(1);
        odds(x, 0, 0, 1, 1);
        odds(x, 0, 1, 0, 1);
        odds(x, 0, 2, 1, 1);
        odds(x, 1, 0, 0, 1);
        odds(x, 1, 1, 1, 1);
        odds(x, 1, 2, 0, 1);
        odds(x, 2, 0, 1, 1);
        odds(x, 2, 1, 1, 1);
        odds(x, 2, 2, 0, 1);
        x.by(-1);
        go(x, 4, 0, 0, 0);
        go(x, 5, 1, 0, 0);
        odds(x, 0, 0, 1, 1);
        odds(x, 0, 1, 1, 4);
        odds(x, 0, 2, 3, 4);
        odds(x, 1, 0, 1, 2);
        odds(x, 1, 1, 1, 1);
        odds(x, 1, 2, 0, 1);
    }

    /** (8 at most) .. NONE .. if there are more than 8 such GEESE */
    private static void oddsOfEight() {
        GooseLetters x = new GooseLetters();
        x.market(1, 5, 0);
        x.market(9, 5, 0);
        for (int i = 0; i < 10; i++) {
            x.goose(1, 1);
        }
        x.store(9999, 0);
        for (int i = 0; i < 8; i++) {
            go(x, i, 0, 0, 1);
            odds(x, 0, 0, (2L << i) - 1, 2L << i);
        }
        go(x, 8, 1, 0, 1);
        odds(x, 0, 0, 255, 256);
        odds(x, 1, 0, 1, 2);
        x.undo();
        x.undo();
        go(x, 8, 0, 0, 0);
        for (int who = 0; who <= 2; who++) {
            due("nine", x.odds(0, who, false), -1);
            due("nine", x.odds(0, who, true), -1);
        }
        odds(x, 1, 0, 0, 1);
        go(x, 9, 0, 1, 0);
        due("ten", x.odds(0, 0, false), -1);
        x.pass(1);
        due("eight on their way, two were there", x.about(21), 8);
        due("odds", x.odds(0, 0, true) > 0 ? 1 : 0, 1);
    }

    /** of all GEESE with it: by one half alone nobody knows it */
    private static void oddsOfOneHalf() {
        for (int part = 1; part <= 2; part++) {
            GooseLetters x = new GooseLetters();
            x.market(9, 5, 5);
            for (int i = 0; i < 9; i++) {
                x.goose(1, 1);
            }
            x.store(99, 0);
            for (int i = 0; i < 7; i++) {
                go(x, i, 0, part, 0);
            }
            for (int who = 0; who <= 2; who++) {
                odds(x, 0, who, 0, 1);
            }
            go(x, 7, 0, 3 - part, 0);
            odds(x, 0, 0, 127, 256);
        }
    }

    /** that FRIENDS do and THE ENEMY doesn't */
    private static void oddsAlone() {
        GooseLetters x = new GooseLetters();
        x.market(9, 5, 5);
        x.goose(1, 1);
        x.goose(1, 1);
        x.store(99, 0);
        go(x, 0, 0, 0, 0);
        odds(x, 0, 0, 1, 2);
        odds(x, 0, 1, 1, 4);
        odds(x, 0, 2, 1, 2);
        go(x, 1, 0, 0, 0);
        odds(x, 0, 0, 3, 4);
        odds(x, 0, 1, 7, 16);
        odds(x, 0, 2, 1, 2);
    }

    /** in lowest terms */
    private static void lowestTerms() {
        int[][] terms = {{0, 1, 1}, {1, 9, 10}, {2, 4, 5}, {3, 7, 10}, {4, 3, 5}, {5, 1, 2}, {6, 2, 5}, {7, 3, 10}, {8, 1, 5}, {9, 1, 10}};
        for (int[] t : terms) {
            GooseLetters x = new GooseLetters();
            x.market(9, t[0], 0);
            x.goose(1, 1);
            x.store(99, 0);
            go(x, 0, 0, 0, 0);
            odds(x, 0, 0, t[1], t[2]);
            odds(x, 0, 1, 0, 1);
        }
        GooseLetters y = new GooseLetters();
        y.market(9, 1, 1);
        y.store(99, 0);
        for (int i = 0; i < 8; i++) {
            y.goose(1, 1);
            go(y, i, 0, 0, 0);
        }
        odds(y, 0, 0, 99999999, 100000000);
        odds(y, 0, 1, 10000000000000000L - 9227446944279201L, 10000000000000000L);
    }

    /** PLAN of a LETTER by p (1 to 100) .. -2 .. for others */
    private static void planOthers() {
        GooseLetters x = town(1);
        for (int letter : WILD) {
            due("letter " + letter, x.plan(letter, 50, -1), -2);
            due("letter " + letter, x.plan(letter, 50, 0), -2);
        }
        for (int letter = 0; letter <= 5; letter++) {
            due("letter " + letter, x.plan(letter, 50, -1), 1);
        }
        for (int p : new int[] {Integer.MIN_VALUE, -1, 0, 101, 102, Integer.MAX_VALUE}) {
            due("p " + p, x.plan(0, p, -1), -2);
            due("p " + p, x.plan(0, p, 0), -2);
        }
        for (int p : new int[] {1, 2, 99, 100}) {
            due("p " + p, x.plan(0, p, -1), 1);
            due("p " + p, x.plan(0, p, 0), 0);
        }
    }

    /** goose NONE: how many GEESE; else .. (NONE: it is none of these). -2: there is none, and for others. */
    private static void planOfGooseNumbers() {
        for (int told = 1; told <= 10; told++) {
            GooseLetters x = town(told);
            due("how many", x.plan(0, 100, -1), 1);
            for (int goose = 0; goose <= 11; goose++) {
                due("goose " + goose + " of " + told, x.plan(0, 100, goose), goose == 0 ? 0 : goose < told ? -1 : -2);
            }
            due("goose -2", x.plan(0, 100, -2), -2);
            due("a goose that is none", x.plan(0, 100, Integer.MIN_VALUE), -2);
            due("a goose that is none", x.plan(0, 100, Integer.MAX_VALUE), -2);
        }
    }

    /** GEESE that are HOME, not NAMED, without a QUILL */
    private static void planOfOneGoose() {
        GooseLetters x = town(1);
        due("ready", x.plan(0, 100, -1), 1);
        x.fill(0, 0, 0);
        due("with a quill", x.plan(0, 100, -1), -2);
        due("of it", x.plan(0, 100, 0), -2);
        x.undo();
        x.name(0);
        due("named", x.plan(0, 100, -1), -2);
        x.undo();
        x.send(0, 0);
        due("on its way", x.plan(0, 100, -1), -2);
        x.pass(1);
        due("with friends", x.plan(0, 100, -1), -2);
        x.undo();
        x.undo();
        due("ready again", x.plan(0, 100, -1), 1);
        x.store(0, 9);
        x.pass(1);
        due("eaten at home", x.of(0, 4), 5);
        due("none", x.plan(0, 100, -1), -2);
    }

    /** (3 at most) */
    private static void planOfThree() {
        int[] most = {50, 75, 87, 87, 87};
        for (int geese = 1; geese <= 5; geese++) {
            GooseLetters x = new GooseLetters();
            x.market(1, 5, 9);
            for (int i = 0; i < geese; i++) {
                x.goose(1, 1);
            }
            for (int p = 1; p <= 100; p++) {
                int size = p <= 50 ? 1 : p <= 75 ? 2 : 3;
                due("p " + p + " of " + geese, x.plan(0, p, -1), p <= most[geese - 1] ? size : -2);
            }
        }
    }

    /** FRIENDS know it by p of 100 or more */
    private static void planExactly() {
        for (int greed = 0; greed <= 9; greed++) {
            GooseLetters x = new GooseLetters();
            x.market(1, greed, 9);
            x.goose(1, 1);
            int most = 100 - 10 * greed;
            due("exactly " + most, x.plan(0, most, -1), 1);
            due("one less", x.plan(0, most - 1, -1), 1);
            due("one more", x.plan(0, most + 1, -1), -2);
        }
        GooseLetters y = new GooseLetters();
        y.market(1, 3, 0);
        y.goose(1, 1);
        y.goose(1, 1);
        y.goose(1, 1);
        due("91 by two", y.plan(0, 91, -1), 2);
        due("97.3 by three", y.plan(0, 97, -1), 3);
        due("not 98", y.plan(0, 98, -1), -2);
    }

    /** (GRAIN isn't asked.) */
    private static void planWithoutGrain() {
        GooseLetters x = town(1);
        x.store(0, 99);
        Check.text(x, "ink 99;");
        x.by(1);
        due("no grain", x.fill(0, 0, 0), -1);
        due("plan", x.plan(0, 50, -1), 1);
        due("nothing is done", x.about(8), 0);
    }

    /** -2: there is none */
    private static void planWithoutGeeseOrMarkets() {
        GooseLetters x = new GooseLetters();
        due("nothing", x.plan(0, 1, -1), -2);
        x.goose(1, 1);
        due("no market", x.plan(0, 1, -1), -2);
        due("no market", x.plan(0, 1, 0), -2);
        GooseLetters y = new GooseLetters();
        y.market(1, 0, 0);
        due("no goose", y.plan(0, 1, -1), -2);
        GooseLetters z = town(3);
        Check.text(z, "butcher 10;");
        z.by(1);
        due("all are eaten", z.plan(0, 1, -1), -2);
        Check.text(z, "butcher 0; code 1 = 2;");
        z.by(2);
        due("none is true", z.plan(0, 1, -1), -2);
    }

    /** the fewest GEESE; of like ones THE ENEMY knows it least likely */
    private static void planLeastRead() {
        GooseLetters x = new GooseLetters();
        x.market(1, 0, 9);
        x.market(1, 5, 1);
        x.goose(1, 1);
        x.goose(1, 1);
        due("never read", x.plan(0, 50, 0), 0);
        GooseLetters y = new GooseLetters();
        y.market(1, 4, 5);
        y.market(1, 5, 3);
        y.market(1, 3, 6);
        y.goose(1, 1);
        y.goose(1, 1);
        due("15 of 100", y.plan(0, 50, 0), 10);
        due("18 of 100 is less than 20", y.plan(0, 60, 0), 20);
        due("one is fewer, though two are read less", y.plan(0, 70, -1), 1);
        Check.text(y, "reader eyes * (1 - goose);");
        y.by(0);
        due("goose 1 is not read", y.plan(0, 70, 1), 20);
        due("goose 0 is none of these", y.plan(0, 70, 0), -1);
        due("the lowest market then", y.plan(0, 50, 1), 0);
    }

    /** then the lowest set of GEESE */
    private static void planLowestSet() {
        GooseLetters x = new GooseLetters();
        x.market(1, 5, 0);
        for (int i = 0; i < 10; i++) {
            x.goose(1, 1);
        }
        for (int named = 0; named < 7; named++) {
            due("three", x.plan(0, 80, -1), 3);
            for (int goose = 0; goose < 10; goose++) {
                due("goose " + goose, x.plan(0, 80, goose), goose >= named && goose < named + 3 ? 0 : -1);
            }
            x.name(named);
        }
        x.name(7);
        due("two are left", x.plan(0, 80, -1), -2);
        due("they are enough for 75", x.plan(0, 75, -1), 2);
    }

    /** then the lowest set of GEESE: of {0, 3} and {1, 2} that with the lowest goose, as they are compared goose by goose */
    private static void planLowestOfUnlikeSets() {
        GooseLetters x = new GooseLetters();
        x.market(1, 0, 0);
        int[][] geese = {{5, 4}, {4, 6}, {7, 0}, {5, 1}};
        for (int[] g : geese) {
            x.goose(g[0], g[1]);
        }
        Check.text(x, "butcher weight; reader feathers;");
        x.by(0);
        due("two", x.plan(0, 66, -1), 2);
        int[] want = {0, -1, -1, 0};
        for (int goose = 0; goose < want.length; goose++) {
            due("goose " + goose, x.plan(0, 66, goose), want[goose]);
        }
        x.name(0);
        due("else the other set", x.plan(0, 66, 1), 0);
        due("else the other set", x.plan(0, 66, 2), 0);
        due("else the other set", x.plan(0, 66, 3), -1);
    }

    /** then the lowest GOOSE's least 10 times the MARKET and the PART, then the next one's, .. */
    private static void planLowestChoice() {
        GooseLetters x = new GooseLetters();
        for (int i = 0; i < 4; i++) {
            x.market(1 + i, 9, 0);
        }
        x.goose(1, 1);
        x.goose(1, 1);
        x.goose(1, 1);
        Check.text(x, "butcher greed - market / 3 * 9 - (1 - market / 3) * (goose - goose / 2 * 2) * market / 2 * 9;");
        x.by(0);
        due("market 3 for the lowest goose", x.plan(0, 100, 0), 30);
        x.name(0);
        due("market 2 for the next one", x.plan(0, 100, 1), 20);
        Check.text(x, "butcher 0; reader 0; code part # 0;");
        x.by(1);
        due("halves", x.plan(0, 100, -1), 2);
        due("the first half for the lowest goose", x.plan(0, 100, 1), 1);
        due("the second for the next one", x.plan(0, 100, 2), 2);
        Check.text(x, "code part = 2 - goose / 2; butcher 9 - market * 3;");
        x.by(2);
        due("goose 1 is believed the second", x.plan(0, 100, 1), 32);
        due("goose 2 is believed the first", x.plan(0, 100, 2), 31);
    }

    /** so that by these alone: what is on its way, or known, doesn't count */
    private static void planByTheseAlone() {
        GooseLetters x = new GooseLetters();
        x.market(1, 0, 0);
        x.market(1, 5, 0);
        for (int i = 0; i < 4; i++) {
            x.goose(1, 1);
        }
        x.store(99, 0);
        go(x, 0, 0, 0, 0);
        x.pass(1);
        due("known", x.known(0, 1), 1);
        Check.text(x, "butcher 5;");
        x.by(0);
        due("yet two are needed", x.plan(0, 75, -1), 2);
        go(x, 1, 0, 0, 0);
        due("yet two are needed", x.plan(0, 75, -1), 2);
        due("not three more", x.plan(0, 80, -1), -2);
    }

    /** SENT to a MARKET on DAY: THERE beyond the last day counts alike */
    private static void planBeyondTheLastDay() {
        GooseLetters x = new GooseLetters();
        x.market(9, 5, 0);
        x.goose(1, 1);
        for (int i = 0; i < 10; i++) {
            x.store(9999, 0);
            x.pass(99);
        }
        x.pass(9);
        due("day", x.about(4), 999);
        due("plan", x.plan(0, 50, 0), 0);
        Check.text(x, "butcher day - 1000;");
        x.by(0);
        due("by the day there", x.plan(0, 20, -1), 1);
        due("by the day there", x.plan(0, 21, -1), -2);
    }
}
