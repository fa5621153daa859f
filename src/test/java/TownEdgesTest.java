/**
 * The limits of section I and of promises 2 to 11 and 19: for each the last input that is still good, and the first that
 * no longer is. Each test's comment is the document's own words.
 */
public final class TownEdgesTest {
    public static void main(String[] args) {
        ways();
        greeds();
        eyes();
        fourMarkets();
        weights();
        feathers();
        tenGeese();
        freshGoose();
        grains();
        mouths();
        seeds();
        firstX();
        quills();
        filledGrain();
        filledForNothing();
        filledOnce();
        sentBeforeTheLastDay();
        sentToToldMarkets();
        fattenedTo20();
        fattenedByTheLastGrain();
        pluckedToNone();
        namedOnce();
        homeOnly();
        passedDays();
        lastDay();
        drawEdges();
        readerEdges();
        certainMarkets();
        drawsInOrder();
        largestX();
        smallestX();
        thereOnThatDay();
        justEnough();
        allNamed();
        nobodyHome();
        eatenOneADay();
        leavesHomeUnfed();
        Check.finish();
    }

    private static void due(String what, long got, long want) {
        Check.due(what, got, want);
    }

    private static void due(String what, boolean got, boolean want) {
        Check.due(what, got, want);
    }

    /** WAY (1 .. 9 DAYS) .. NONE for others */
    private static void ways() {
        for (int way : new int[] {-1, 0, 10, 11, Integer.MIN_VALUE, Integer.MAX_VALUE}) {
            GooseLetters x = new GooseLetters();
            due("way " + way, x.market(way, 5, 5), -1);
            due("markets", x.about(0), 0);
            due("no market 0", x.about(10), -2);
            due("the next one's number", x.market(1, 5, 5), 0);
        }
        for (int way = 1; way <= 9; way++) {
            GooseLetters x = new GooseLetters();
            due("way " + way, x.market(way, 0, 0), 0);
            due("told", x.about(10), 100 * way);
            x.goose(1, 1);
            due("there", x.send(0, 0), way);
        }
    }

    /** GREED .. (0 .. 9 each) */
    private static void greeds() {
        for (int greed : new int[] {-1, 10, Integer.MIN_VALUE, Integer.MAX_VALUE}) {
            GooseLetters x = new GooseLetters();
            due("greed " + greed, x.market(1, greed, 5), -1);
            due("markets", x.about(0), 0);
        }
        for (int greed = 0; greed <= 9; greed++) {
            GooseLetters x = new GooseLetters();
            due("greed " + greed, x.market(1, greed, 5), 0);
            due("told", x.about(10), 105 + 10 * greed);
        }
    }

    /** EYES (0 .. 9 each) */
    private static void eyes() {
        for (int eyes : new int[] {-1, 10, Integer.MIN_VALUE, Integer.MAX_VALUE}) {
            GooseLetters x = new GooseLetters();
            due("eyes " + eyes, x.market(1, 5, eyes), -1);
            due("markets", x.about(0), 0);
        }
        for (int eyes = 0; eyes <= 9; eyes++) {
            GooseLetters x = new GooseLetters();
            due("eyes " + eyes, x.market(1, 5, eyes), 0);
            due("told", x.about(10), 150 + eyes);
        }
    }

    /** MARKETS 0 .. 3 (told one by one) .. or if there are 4 */
    private static void fourMarkets() {
        GooseLetters x = new GooseLetters();
        for (int i = 0; i < 4; i++) {
            due("not told yet", x.about(10 + i), -2);
            due("wrong ones have no number", x.market(0, i, i), -1);
            due("market " + i, x.market(1 + i, i, 9 - i), i);
            due("markets", x.about(0), 1 + i);
        }
        due("a fifth", x.market(1, 1, 1), -1);
        due("markets", x.about(0), 4);
        for (int i = 0; i < 4; i++) {
            due("as told", x.about(10 + i), 100 * (1 + i) + 10 * i + 9 - i);
        }
        due("no market 4", x.about(14), -2);
    }

    /** WEIGHT (1 .. 20) .. NONE for others */
    private static void weights() {
        for (int weight : new int[] {-1, 0, 21, 22, Integer.MIN_VALUE, Integer.MAX_VALUE}) {
            GooseLetters x = new GooseLetters();
            due("weight " + weight, x.goose(weight, 5), -1);
            due("geese", x.about(1), 0);
            due("no goose 0", x.of(0, 0), -2);
            due("the next one's number", x.goose(1, 5), 0);
        }
        for (int weight = 1; weight <= 20; weight++) {
            GooseLetters x = new GooseLetters();
            due("weight " + weight, x.goose(weight, 5), 0);
            due("told", x.of(0, 0), weight);
        }
    }

    /** FEATHERS (0 .. 99) */
    private static void feathers() {
        for (int feathers : new int[] {-1, 100, Integer.MIN_VALUE, Integer.MAX_VALUE}) {
            GooseLetters x = new GooseLetters();
            due("feathers " + feathers, x.goose(5, feathers), -1);
            due("geese", x.about(1), 0);
        }
        for (int feathers : new int[] {0, 1, 98, 99}) {
            GooseLetters x = new GooseLetters();
            due("feathers " + feathers, x.goose(5, feathers), 0);
            due("told", x.of(0, 1), feathers);
        }
    }

    /** GEESE 0 .. 9 (told one by one) .. or if there are 10 */
    private static void tenGeese() {
        GooseLetters x = new GooseLetters();
        for (int i = 0; i < 10; i++) {
            due("not told yet", x.of(i, 0), -2);
            due("wrong ones have no number", x.goose(0, i), -1);
            due("goose " + i, x.goose(1 + i, 90 + i), i);
            due("geese", x.about(1), 1 + i);
        }
        due("an eleventh", x.goose(1, 1), -1);
        due("geese", x.about(1), 10);
        for (int i = 0; i < 10; i++) {
            due("as told", x.of(i, 0), 1 + i);
            due("as told", x.of(i, 1), 90 + i);
        }
        due("no goose 10", x.of(10, 0), -2);
    }

    /** NAMED or not (at first not) .. or none (at first) .. 0 HOME (at first) .. NONE: it was never SENT .. not yet */
    private static void freshGoose() {
        GooseLetters x = new GooseLetters();
        x.goose(4, 40);
        int[] fresh = {4, 40, -1, -1, 0, -1, -1, -1, 0, 1};
        for (int what = 0; what < fresh.length; what++) {
            due("fresh " + what, x.of(0, what), fresh[what]);
        }
        for (int what : new int[] {-1, 10, 11, Integer.MIN_VALUE, Integer.MAX_VALUE}) {
            due("of other " + what, x.of(0, what), -2);
        }
        for (int goose : new int[] {-1, 1, 9, 10, Integer.MIN_VALUE, Integer.MAX_VALUE}) {
            due("of goose " + goose, x.of(goose, 4), -2);
        }
    }

    /** GRAIN (0 .. 9999) .. at first 0 .. False for others */
    private static void grains() {
        GooseLetters x = new GooseLetters();
        due("at first", x.about(2), 0);
        for (int grain : new int[] {9999, 0, 1, 9998}) {
            due("grain " + grain, x.store(grain, 7), true);
            due("stored", x.about(2), grain);
        }
        for (int grain : new int[] {-1, 10000, Integer.MIN_VALUE, Integer.MAX_VALUE}) {
            due("grain " + grain, x.store(grain, 8), false);
            due("grain stays", x.about(2), 9998);
            due("mouths stay", x.about(3), 7);
        }
    }

    /** MOUTHS (0 .. 99) .. at first 0 .. False for others */
    private static void mouths() {
        GooseLetters x = new GooseLetters();
        due("at first", x.about(3), 0);
        for (int mouths : new int[] {99, 0, 1, 98}) {
            due("mouths " + mouths, x.store(7, mouths), true);
            due("stored", x.about(3), mouths);
        }
        for (int mouths : new int[] {-1, 100, Integer.MIN_VALUE, Integer.MAX_VALUE}) {
            due("mouths " + mouths, x.store(8, mouths), false);
            due("grain stays", x.about(2), 7);
            due("mouths stay", x.about(3), 98);
        }
    }

    /** X is SEED (0 .. 9999) * 11 + 9: true. False for others. */
    private static void seeds() {
        GooseLetters x = new GooseLetters();
        for (int seed : new int[] {9999, 0, 1, 9998}) {
            due("seed " + seed, x.seed(seed), true);
            due("x", x.about(5), seed * 11 + 9);
        }
        for (int seed : new int[] {-1, 10000, Integer.MIN_VALUE, Integer.MAX_VALUE}) {
            due("seed " + seed, x.seed(seed), false);
            due("x stays", x.about(5), 9998 * 11 + 9);
        }
    }

    /** X: at first 9 */
    private static void firstX() {
        GooseLetters x = new GooseLetters();
        due("x", x.about(5), 9);
        x.goose(1, 1);
        x.store(50, 1);
        x.pass(9);
        due("no goose there, no draw", x.about(5), 9);
    }

    /** a LETTER 0 .. 5 and a PART: 0 whole, 1, 2 a half */
    private static void quills() {
        for (int letter = -2; letter <= 7; letter++) {
            for (int part = -2; part <= 4; part++) {
                boolean good = letter >= 0 && letter <= 5 && part >= 0 && part <= 2;
                GooseLetters x = new GooseLetters();
                x.goose(5, 5);
                x.store(9, 0);
                due("ink of " + letter + " " + part, x.ink(0, letter, part), good ? 1 : -1);
                due("fill with " + letter + " " + part, x.fill(0, letter, part), good ? 8 : -1);
                due("letter", x.of(0, 2), good ? letter : -1);
                due("part", x.of(0, 3), good ? part : -1);
                due("grain", x.about(2), good ? 8 : 9);
                due("steps", x.about(8), good ? 1 : 0);
            }
        }
    }

    /** GRAIN is less by ink (which must be there) */
    private static void filledGrain() {
        for (int grain = 0; grain <= 8; grain++) {
            GooseLetters x = new GooseLetters();
            x.goose(5, 5);
            Check.text(x, "ink 7;");
            x.by(0);
            x.store(grain, 0);
            due("fill with grain " + grain, x.fill(0, 1, 1), grain < 7 ? -1 : grain - 7);
            due("quill", x.of(0, 2), grain < 7 ? -1 : 1);
            due("grain is left", x.about(2), grain < 7 ? grain : grain - 7);
        }
    }

    /** GRAIN is less by ink: nothing, where ink is 0 */
    private static void filledForNothing() {
        GooseLetters x = new GooseLetters();
        x.goose(5, 5);
        due("without grain", x.fill(0, 1, 1), -1);
        Check.text(x, "ink 0;");
        x.by(0);
        due("for nothing", x.fill(0, 1, 1), 0);
        due("a step", x.about(8), 1);
    }

    /** FILLED: a GOOSE that is HOME without a QUILL has one */
    private static void filledOnce() {
        GooseLetters x = new GooseLetters();
        x.goose(5, 5);
        x.store(9, 0);
        due("fill", x.fill(0, 0, 0), 8);
        due("again alike", x.fill(0, 0, 0), -1);
        due("again unlike", x.fill(0, 5, 2), -1);
        due("letter", x.of(0, 2), 0);
        due("part", x.of(0, 3), 0);
        due("undo", x.undo(), 0);
        due("then again", x.fill(0, 5, 2), 8);
    }

    /** is on its WAY, THERE on DAY + WAY */
    private static void sentBeforeTheLastDay() {
        GooseLetters x = new GooseLetters();
        x.market(9, 0, 0);
        x.market(1, 0, 0);
        for (int i = 0; i < 10; i++) {
            x.pass(99);
        }
        for (int i = 0; i < 4; i++) {
            x.goose(1, 1);
        }
        x.store(9999, 0);
        due("there on the last day", x.send(0, 0), 999);
        x.pass(8);
        due("there on the last day", x.send(1, 1), 999);
        due("there beyond it", x.send(2, 0), 1007);
        x.pass(1);
        due("arrived", x.about(22), 2);
        due("there beyond it", x.send(3, 1), 1000);
        due("no day more", x.pass(1), -1);
        due("on their way for ever", x.about(21), 2);
    }

    /** SENT .. to a MARKET .. NONE, if it can't be */
    private static void sentToToldMarkets() {
        for (int told = 0; told <= 4; told++) {
            for (int market = -1; market <= 5; market++) {
                GooseLetters x = new GooseLetters();
                x.goose(1, 1);
                for (int i = 0; i < told; i++) {
                    x.market(1 + i, 0, 0);
                }
                boolean good = market >= 0 && market < told;
                due("send to " + market + " of " + told, x.send(0, market), good ? 1 + market : -1);
                due("market", x.of(0, 5), good ? market : -1);
                due("there", x.of(0, 6), good ? 1 + market : -1);
                due("fate", x.of(0, 4), good ? 1 : 0);
                due("steps", x.about(8), good ? 1 : 0);
            }
        }
    }

    /** WEIGHT (20 at most) is one more */
    private static void fattenedTo20() {
        GooseLetters x = new GooseLetters();
        x.goose(1, 0);
        x.goose(20, 0);
        x.store(100, 0);
        for (int weight = 2; weight <= 20; weight++) {
            due("fattened", x.fatten(0), weight);
        }
        due("steps", x.about(8), 19);
        due("no more", x.fatten(0), -1);
        due("as told", x.fatten(1), -1);
        due("weight", x.of(0, 0), 20);
        due("grain", x.about(2), 81);
        due("steps", x.about(8), 19);
    }

    /** GRAIN one less (which must be there) */
    private static void fattenedByTheLastGrain() {
        GooseLetters x = new GooseLetters();
        x.goose(1, 0);
        x.store(2, 0);
        due("two", x.fatten(0), 2);
        due("the last", x.fatten(0), 3);
        due("grain", x.about(2), 0);
        due("none is there", x.fatten(0), -1);
        due("weight", x.of(0, 0), 3);
        due("grain", x.about(2), 0);
        due("steps", x.about(8), 2);
    }

    /** FEATHERS (1 at least) are one less */
    private static void pluckedToNone() {
        GooseLetters x = new GooseLetters();
        x.goose(1, 2);
        x.goose(1, 99);
        due("one of 99", x.pluck(1), 98);
        due("one of 2", x.pluck(0), 1);
        due("the last", x.pluck(0), 0);
        due("there is none", x.pluck(0), -1);
        due("feathers", x.of(0, 1), 0);
        due("grain isn't asked", x.about(2), 0);
        due("steps", x.about(8), 3);
    }

    /** NAMED: one that is HOME and isn't */
    private static void namedOnce() {
        GooseLetters x = new GooseLetters();
        x.goose(1, 2);
        x.store(5, 0);
        x.market(1, 0, 0);
        due("named", x.name(0), true);
        due("twice", x.name(0), false);
        due("steps", x.about(8), 1);
        due("not sent", x.send(0, 0), -1);
        due("but filled", x.fill(0, 0, 0), 4);
        due("and fattened", x.fatten(0), 2);
        due("and plucked", x.pluck(0), 1);
        x.undo();
        x.undo();
        x.undo();
        x.undo();
        due("not named", x.of(0, 8), 0);
        due("sent then", x.send(0, 0), 1);
    }

    /** one that is HOME (of each FATE that is another one) */
    private static void homeOnly() {
        for (int fate = 1; fate <= 5; fate++) {
            GooseLetters x = fated(fate);
            due("fate", x.of(0, 4), fate);
            due("fates", x.about(20 + fate), 1);
            x.store(50, 0);
            int steps = x.about(8);
            due("fill in fate " + fate, x.fill(0, 0, 0), -1);
            due("send in fate " + fate, x.send(0, 0), -1);
            due("fatten in fate " + fate, x.fatten(0), -1);
            due("pluck in fate " + fate, x.pluck(0), -1);
            due("name in fate " + fate, x.name(0), false);
            due("ink, whatever it is", x.ink(0, 0, 0), 1);
            due("steps", x.about(8), steps);
            due("grain", x.about(2), 50);
        }
    }

    /** A town whose goose 0 has that fate; with a quill where it is read. */
    private static GooseLetters fated(int fate) {
        GooseLetters x = new GooseLetters();
        x.market(1, fate == 2 ? 0 : 9, 9);
        x.goose(3, 3);
        x.seed(1);
        x.store(fate == 5 ? 0 : 9, 0);
        if (fate == 4) {
            x.fill(0, 1, 0);
        }
        if (fate != 5) {
            x.send(0, 0);
        }
        if (fate != 1) {
            x.pass(1);
        }
        return x;
    }

    /** So many DAYS (1 .. 99 ..) pass: DAY. NONE for others. */
    private static void passedDays() {
        for (int days : new int[] {1, 2, 98, 99}) {
            GooseLetters x = new GooseLetters();
            due("pass " + days, x.pass(days), days);
            due("day", x.about(4), days);
            due("one step", x.about(8), 1);
            due("taken back at once", x.undo(), 0);
            due("day", x.about(4), 0);
        }
        for (int days : new int[] {0, -1, 100, 999, Integer.MIN_VALUE, Integer.MAX_VALUE}) {
            GooseLetters x = new GooseLetters();
            due("pass " + days, x.pass(days), -1);
            due("day", x.about(4), 0);
            due("no step", x.about(8), 0);
        }
    }

    /** DAY (0 .. 999) .. not beyond 999 */
    private static void lastDay() {
        for (int start = 900; start <= 999; start += 3) {
            GooseLetters x = new GooseLetters();
            for (int i = 0; i < 9; i++) {
                x.pass(99);
            }
            for (int day = 891; day < start; day = x.about(4)) {
                x.pass(Math.min(99, start - day));
            }
            int left = 999 - start;
            due("day", x.about(4), start);
            due("beyond from " + start, x.pass(left + 1), -1);
            due("day stays", x.about(4), start);
            if (left > 0) {
                due("up to the last from " + start, x.pass(left), 999);
            }
            due("no day more", x.pass(1), -1);
            due("day", x.about(4), 999);
        }
    }

    /** The fate of a goose that is there when X's last digit is a draw. */
    private static GooseLetters drawn(int draw, int greed) {
        GooseLetters x = new GooseLetters();
        x.market(1, greed, 9);
        x.goose(3, 3);
        // 11 times a seed and 9 more: the last digit is one less than the seed's.
        x.seed((draw + 1) % 10);
        x.send(0, 0);
        x.pass(1);
        return x;
    }

    /** a draw by 10; below butcher: EATEN .. else with FRIENDS */
    private static void drawEdges() {
        for (int greed = 0; greed <= 9; greed++) {
            for (int draw = 0; draw <= 9; draw++) {
                due("draw " + draw + " by greed " + greed, drawn(draw, greed).of(0, 4), draw < greed ? 3 : 2);
            }
        }
    }

    /** if it has a QUILL, one more draw by 10: below reader: READ as well */
    private static void readerEdges() {
        for (int seed = 0; seed < 60; seed++) {
            int second = (((seed * 11 + 9) * 157 + 61) % 30071) % 10;
            for (int eyes = 0; eyes <= 9; eyes++) {
                GooseLetters x = new GooseLetters();
                x.market(1, 0, eyes);
                x.goose(3, 3);
                x.store(9, 0);
                Check.text(x, "butcher 10;");
                x.by(0);
                x.seed(seed);
                x.fill(0, 0, 0);
                x.send(0, 0);
                x.pass(1);
                due("second draw " + second + " by eyes " + eyes, x.of(0, 4), second < eyes ? 4 : 3);
            }
        }
    }

    /** butcher, reader: 0 at least, 10 at most: then no draw matters, yet each is made */
    private static void certainMarkets() {
        for (int seed = 0; seed < 30; seed++) {
            for (int kind = 0; kind < 3; kind++) {
                GooseLetters x = new GooseLetters();
                x.market(1, 5, 5);
                x.goose(3, 3);
                x.store(9, 0);
                Check.text(x, kind == 0 ? "butcher -1; reader 11;" : kind == 1 ? "butcher 11; reader -1;" : "butcher 99; reader 99;");
                x.by(0);
                x.seed(seed);
                x.fill(0, 0, 0);
                x.send(0, 0);
                x.pass(1);
                due("certain " + kind, x.of(0, 4), 2 + kind);
                long once = ((seed * 11 + 9) * 157L + 61) % 30071;
                due("x of kind " + kind, x.about(5), kind == 0 ? once : (once * 157 + 61) % 30071);
            }
        }
    }

    /** then GOOSE by GOOSE by number */
    private static void drawsInOrder() {
        GooseLetters x = new GooseLetters();
        x.market(2, 5, 0);
        x.market(1, 5, 0);
        for (int i = 0; i < 10; i++) {
            x.goose(1, 1);
        }
        for (int goose = 9; goose >= 5; goose--) {
            x.send(goose, 0);
        }
        x.store(50, 0);
        x.pass(1);
        for (int goose = 4; goose >= 0; goose--) {
            x.send(goose, 1);
        }
        x.pass(1);
        long seen = 9;
        for (int goose = 0; goose < 10; goose++) {
            due("goose " + goose, x.of(goose, 4), seen % 10 < 5 ? 3 : 2);
            due("then", x.of(goose, 7), 2);
            seen = (seen * 157 + 61) % 30071;
        }
        due("x", x.about(5), seen);
    }

    /** X being (X * 157 + 61) mod 30071 then: from the largest seed it is wound round */
    private static void largestX() {
        GooseLetters x = drawn(8, 0);
        due("x of seed 9", x.about(5), (108 * 157 + 61) % 30071);
        GooseLetters y = new GooseLetters();
        y.market(1, 9, 9);
        y.goose(1, 1);
        y.seed(9999);
        y.send(0, 0);
        y.pass(1);
        due("109998 mod 10 is 8", y.of(0, 4), 3);
        due("x", y.about(5), (109998L * 157 + 61) % 30071);
    }

    /** X being (X * 157 + 61) mod 30071 then: 0 and 30070 are the ends of what it can be */
    private static void smallestX() {
        int[][] ways = {{2484, 2, 0, 61}, {9621, 6, 30070, 29975}};
        for (int[] way : ways) {
            GooseLetters x = new GooseLetters();
            x.market(1, 1, 9);
            x.market(2, 1, 9);
            x.store(9, 0);
            x.seed(way[0]);
            for (int goose = 0; goose <= way[1]; goose++) {
                x.goose(1, 1);
                x.send(goose, goose < way[1] ? 0 : 1);
            }
            x.pass(1);
            due("x", x.about(5), way[2]);
            x.pass(1);
            due("a draw of 0", x.of(way[1], 4), 3);
            due("x behind it", x.about(5), way[3]);
        }
    }

    /** each that is on its WAY and THERE on that DAY .. THEN: the DAY on which it came to FATE 2 .. 5 */
    private static void thereOnThatDay() {
        GooseLetters x = new GooseLetters();
        x.market(3, 0, 0);
        x.goose(1, 1);
        x.send(0, 0);
        x.pass(2);
        due("a day ahead", x.of(0, 4), 1);
        due("not yet", x.of(0, 7), -1);
        x.pass(1);
        due("on that day", x.of(0, 4), 2);
        due("then", x.of(0, 7), 3);
        x.pass(1);
        due("then stays", x.of(0, 7), 3);
        due("there stays", x.of(0, 6), 3);
        GooseLetters y = new GooseLetters();
        y.market(3, 0, 0);
        y.goose(1, 1);
        y.send(0, 0);
        y.pass(99);
        due("several days at once", y.of(0, 7), 3);
    }

    /** if so much isn't there, the lowest GOOSE that is HOME and not NAMED is EATEN at home, and GRAIN is its WEIGHT */
    private static void justEnough() {
        for (int grain = 4; grain <= 7; grain++) {
            GooseLetters x = new GooseLetters();
            x.goose(20, 1);
            x.goose(11, 1);
            x.goose(12, 1);
            x.name(0);
            x.store(grain, 3);
            x.pass(1);
            due("fate with grain " + grain, x.of(1, 4), grain < 6 ? 5 : 0);
            due("grain with grain " + grain, x.about(2), grain < 6 ? 11 : grain - 6);
            due("then", x.of(1, 7), grain < 6 ? 1 : -1);
            due("the named one", x.of(0, 4), 0);
            due("the next one", x.of(2, 4), 0);
        }
    }

    /** (0 without one): all that are HOME are NAMED */
    private static void allNamed() {
        GooseLetters x = new GooseLetters();
        x.goose(20, 1);
        x.goose(11, 1);
        x.name(0);
        x.name(1);
        x.store(9, 8);
        x.pass(1);
        due("grain", x.about(2), 0);
        due("home", x.about(20), 2);
        x.pass(1);
        due("grain", x.about(2), 0);
        due("home", x.about(20), 2);
    }

    /** (0 without one): none is HOME */
    private static void nobodyHome() {
        GooseLetters x = new GooseLetters();
        x.market(9, 0, 0);
        x.goose(20, 1);
        x.send(0, 0);
        x.store(7, 8);
        x.pass(1);
        due("grain", x.about(2), 0);
        due("on its way", x.of(0, 4), 1);
        x.store(0, 0);
        x.pass(1);
        due("nothing is needed", x.about(2), 0);
    }

    /** A DAY passes: one GOOSE a DAY is EATEN at home, the lowest first */
    private static void eatenOneADay() {
        GooseLetters x = new GooseLetters();
        for (int i = 0; i < 10; i++) {
            x.goose(1, 1);
        }
        x.store(0, 99);
        for (int i = 0; i < 10; i++) {
            x.pass(1);
            due("eaten at home", x.about(25), 1 + i);
            due("goose " + i, x.of(i, 4), 5);
            due("then", x.of(i, 7), 1 + i);
            due("grain", x.about(2), 1);
        }
        x.pass(1);
        due("grain", x.about(2), 0);
        due("steps", x.about(8), 11);
    }

    /** by one for each GOOSE that is HOME: not for those that are on their WAY or were THERE */
    private static void leavesHomeUnfed() {
        GooseLetters x = new GooseLetters();
        x.market(1, 0, 0);
        x.market(9, 0, 0);
        for (int i = 0; i < 4; i++) {
            x.goose(2, 2);
        }
        x.send(0, 0);
        x.send(1, 1);
        x.name(2);
        x.store(10, 4);
        x.pass(1);
        due("four mouths and two geese", x.about(2), 4);
    }
}
