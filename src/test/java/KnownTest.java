/** Promises 21 to 26: what is known, by which goose, when an answer is home, odds and plans. */
public final class KnownTest {
    public static void main(String[] args) {
        wholeAndHalves();
        enemyKnows();
        believedOnly();
        ledOrder();
        codeOfToday();
        oddsOfTwo();
        oddsWithHalves();
        oddsOfUntrue();
        manyGeese();
        planSizes();
        planTies();
        planReady();
        planByLaws();
        planPatterns();
        planOfManyGeese();
        Check.finish();
    }

    private static void due(String what, long got, long want) {
        Check.due(what, got, want);
    }

    /** Market 0: friends buy all, a day's way; 1: all is eaten and read, two days' way; 2: friends, five days' way. */
    private static GooseLetters town(int geese) {
        GooseLetters x = new GooseLetters();
        x.market(1, 0, 0);
        x.market(2, 9, 9);
        x.market(5, 0, 0);
        x.store(9999, 0);
        x.seed(0);
        for (int i = 0; i < geese; i++) {
            x.goose(5, 10 + i);
        }
        return x;
    }

    private static void go(GooseLetters x, int goose, int letter, int part, int market) {
        x.fill(goose, letter, part);
        x.send(goose, market);
    }

    private static void wholeAndHalves() {
        GooseLetters x = town(4);
        go(x, 0, 1, 1, 0);
        go(x, 1, 1, 1, 0);
        go(x, 2, 1, 2, 2);
        go(x, 3, 2, 0, 0);
        due("on its way", x.known(2, 999), 0);
        x.pass(5);
        due("halves on 4", x.known(1, 4), 0);
        due("halves on 5", x.known(1, 5), 1);
        due("whole on 0", x.known(2, 0), 0);
        due("whole on 1", x.known(2, 1), 1);
        due("led", x.led(1, false), 2);
        due("led", x.led(2, false), 3);
        due("answer", x.answer(1), 10);
        due("answer", x.answer(2), 2);
        due("never sent", x.known(3, 999), 0);
        due("not led", x.led(3, false), -1);
        due("no answer", x.answer(3), -1);
        int[][] others = {{-1, 0}, {6, 0}, {0, -1}, {0, 1000}};
        for (int[] w : others) {
            due("known of others", x.known(w[0], w[1]), -1);
        }
        due("led of others", x.led(-1, false), -1);
        due("led of others", x.led(6, true), -1);
        due("answer of others", x.answer(-1), -1);
        due("answer of others", x.answer(6), -1);
    }

    private static void enemyKnows() {
        GooseLetters x = town(4);
        Check.text(x, "butcher market*10; reader 10; code feathers = 0;");
        go(x, 0, 4, 1, 1);
        go(x, 1, 4, 2, 1);
        go(x, 2, 4, 0, 0);
        x.send(3, 1);
        x.by(0);
        x.pass(2);
        due("eaten without a quill", x.of(3, 4), 3);
        due("read", x.about(24), 2);
        due("the enemy, true or not", x.known(4, 2), 2);
        due("a day ahead", x.known(4, 1), 0);
        due("led the enemy", x.led(4, true), 1);
        due("friends don't believe", x.led(4, false), -1);
        due("no answer", x.answer(4), -1);
        x.by(-1);
        due("without a code", x.known(4, 2), 3);
        due("friends a day ahead", x.known(4, 1), 1);
        due("led friends", x.led(4, false), 2);
        due("answer", x.answer(4), 2);
    }

    private static void believedOnly() {
        GooseLetters x = town(3);
        Check.text(x, "code feathers # 11 and letter = 0;");
        x.by(0);
        go(x, 0, 0, 1, 0);
        go(x, 1, 0, 2, 0);
        x.pass(1);
        due("its half is not believed", x.known(0, 1), 0);
        go(x, 2, 0, 2, 0);
        x.pass(1);
        due("known", x.known(0, 2), 1);
        due("led", x.led(0, false), 2);
    }

    private static void ledOrder() {
        GooseLetters x = town(6);
        go(x, 5, 3, 1, 0);
        x.pass(1);
        go(x, 0, 3, 0, 2);
        go(x, 1, 3, 1, 0);
        go(x, 2, 3, 2, 0);
        go(x, 3, 3, 0, 0);
        x.pass(9);
        due("by then and by number", x.led(3, false), 2);
        due("answer", x.answer(3), 3);
        x.undo();
        due("not yet", x.led(3, false), -1);
    }

    private static void codeOfToday() {
        GooseLetters x = town(1);
        Check.text(x, "code day >= 3;");
        x.by(0);
        go(x, 0, 0, 0, 0);
        x.pass(2);
        due("not true today", x.known(0, 1), 0);
        x.pass(1);
        due("true today", x.known(0, 1), 1);
        due("led", x.led(0, false), 0);
    }

    private static void odds(GooseLetters x, int letter, int who, long upper, long lower) {
        due("odds " + letter + " of " + who, x.odds(letter, who, false), upper);
        due("odds " + letter + " of " + who + " low", x.odds(letter, who, true), lower);
    }

    private static void oddsOfTwo() {
        GooseLetters x = new GooseLetters();
        x.market(3, 4, 5);
        x.market(2, 2, 9);
        x.store(99, 0);
        x.goose(1, 1);
        x.goose(1, 1);
        go(x, 0, 0, 0, 0);
        odds(x, 0, 0, 3, 5);
        odds(x, 0, 1, 1, 5);
        odds(x, 0, 2, 3, 5);
        go(x, 1, 0, 0, 1);
        odds(x, 0, 0, 23, 25);
        odds(x, 0, 1, 43, 125);
    }

    private static void oddsWithHalves() {
        GooseLetters x = town(4);
        x.market(7, 5, 2);
        go(x, 0, 0, 1, 0);
        x.pass(1);
        odds(x, 0, 0, 0, 1);
        go(x, 1, 0, 2, 3);
        odds(x, 0, 0, 1, 2);
        odds(x, 0, 1, 0, 1);
        odds(x, 0, 2, 1, 2);
        go(x, 2, 0, 1, 3);
        odds(x, 0, 0, 1, 2);
        odds(x, 0, 1, 1, 100);
        odds(x, 0, 2, 1, 2);
        go(x, 3, 0, 2, 3);
        odds(x, 0, 0, 3, 4);
        due("other letter", x.odds(-1, 0, true), -1);
        due("other letter", x.odds(6, 0, true), -1);
        due("other who", x.odds(0, -1, true), -1);
        due("other who", x.odds(0, 3, true), -1);
    }

    private static void oddsOfUntrue() {
        GooseLetters x = town(2);
        x.market(3, 5, 4);
        Check.text(x, "code goose = 1;");
        x.by(0);
        go(x, 0, 2, 0, 3);
        odds(x, 2, 0, 0, 1);
        odds(x, 2, 1, 1, 5);
        odds(x, 2, 2, 0, 1);
        go(x, 1, 2, 0, 3);
        odds(x, 2, 0, 1, 2);
        odds(x, 2, 1, 9, 25);
        odds(x, 2, 2, 2, 5);
    }

    private static void manyGeese() {
        GooseLetters x = new GooseLetters();
        x.market(9, 9, 9);
        x.store(9999, 0);
        for (int i = 0; i < 10; i++) {
            x.goose(1, 1);
        }
        for (int i = 0; i < 8; i++) {
            go(x, i, 5, 0, 0);
        }
        odds(x, 5, 0, 100000000 - 43046721, 100000000);
        odds(x, 5, 1, 10000000000000000L - 16983563041L, 10000000000000000L);
        go(x, 8, 4, 0, 0);
        odds(x, 4, 0, 1, 10);
        go(x, 9, 5, 1, 0);
        due("nine", x.odds(5, 0, false), -1);
        due("nine", x.odds(5, 2, true), -1);
        odds(x, 4, 0, 1, 10);
        x.undo();
        odds(x, 5, 0, 100000000 - 43046721, 100000000);
    }

    private static void planSizes() {
        GooseLetters x = new GooseLetters();
        due("no geese", x.plan(0, 1, -1), -2);
        x.market(1, 6, 0);
        x.goose(1, 1);
        due("40", x.plan(0, 40, -1), 1);
        due("its market and part", x.plan(0, 40, 0), 0);
        due("41", x.plan(0, 41, -1), -2);
        due("41 of a goose", x.plan(0, 41, 0), -2);
        x.goose(1, 1);
        due("41", x.plan(0, 41, -1), 2);
        due("64", x.plan(0, 64, -1), 2);
        due("65", x.plan(0, 65, -1), -2);
        x.goose(1, 1);
        due("65", x.plan(0, 65, -1), 3);
        due("78", x.plan(0, 78, -1), 3);
        due("79", x.plan(0, 79, -1), -2);
        x.goose(1, 1);
        due("three at most", x.plan(0, 79, -1), -2);
        due("not of it", x.plan(0, 78, 3), -1);
        due("no such goose", x.plan(0, 78, 4), -2);
        due("no such goose", x.plan(0, 78, -2), -2);
        int[][] others = {{-1, 5}, {6, 5}, {0, 0}, {0, 101}, {0, -5}};
        for (int[] w : others) {
            due("plan of others", x.plan(w[0], w[1], -1), -2);
        }
        due("nothing is done", x.about(8), 0);
    }

    private static void planTies() {
        GooseLetters x = new GooseLetters();
        x.market(1, 2, 9);
        x.market(1, 4, 2);
        x.market(2, 4, 2);
        for (int i = 0; i < 3; i++) {
            x.goose(1, 1);
        }
        due("one whole, least read", x.plan(0, 50, 0), 10);
        due("only market 0 is enough", x.plan(0, 70, 0), 0);
        due("two", x.plan(0, 81, -1), 2);
        due("two wholes, least read", x.plan(0, 81, 0), 10);
        due("two wholes, least read", x.plan(0, 81, 1), 10);
        due("not of the lowest set", x.plan(0, 81, 2), -1);
        GooseLetters y = new GooseLetters();
        y.market(1, 1, 9);
        Check.text(y, "butcher part - part + 1 + 9*(part = 0);");
        due("an ask is no sum", y.fault(0), 1);
        Check.text(y, "butcher 9 - part*8 + part/2*8;");
        y.by(0);
        y.goose(1, 1);
        y.goose(1, 1);
        y.goose(1, 1);
        due("halves", y.plan(0, 81, -1), 2);
        due("first half", y.plan(0, 81, 0), 1);
        due("second half", y.plan(0, 81, 1), 2);
        due("a third", y.plan(0, 82, -1), 3);
        due("a half twice, least read", y.plan(0, 82, 0), 1);
        due("a half twice, least read", y.plan(0, 82, 1), 1);
        due("second half", y.plan(0, 82, 2), 2);
    }

    private static void planReady() {
        GooseLetters x = town(5);
        x.fill(0, 1, 0);
        x.name(1);
        x.send(2, 0);
        due("the first that is ready", x.plan(0, 100, 3), 0);
        due("filled", x.plan(0, 100, 0), -1);
        due("named", x.plan(0, 100, 1), -1);
        due("on its way", x.plan(0, 100, 2), -1);
        x.name(3);
        due("the next", x.plan(0, 100, 4), 0);
        x.name(4);
        due("none is ready", x.plan(0, 100, -1), -2);
        x.undo();
        x.store(0, 0);
        due("grain isn't asked", x.plan(0, 100, -1), 1);
    }

    private static void planByLaws() {
        GooseLetters x = town(3);
        Check.text(x, "code feathers > 10 and letter = 3 and part # 0 and day < 2; butcher day - 2; reader 10*goose;");
        x.by(0);
        due("of another letter", x.plan(2, 1, -1), -2);
        due("two halves", x.plan(3, 100, -1), 2);
        due("untrue", x.plan(3, 100, 0), -1);
        due("first", x.plan(3, 100, 1), 1);
        due("second", x.plan(3, 100, 2), 2);
        due("the code is of today", x.plan(3, 50, -1), 2);
        x.pass(1);
        due("the butcher of the day there", x.plan(3, 100, 1), 1);
        x.pass(1);
        due("not true", x.plan(3, 1, -1), -2);
    }

    /** Friends believe each goose one part alone: by two of them the letter is not known often enough. */
    private static void planPatterns() {
        int[][] parts = {{0, 0, 0}, {0, 1, 2}, {0, 2, 1}, {1, 0, 2}, {1, 2, 0}, {2, 0, 1}, {2, 1, 0},
            {1, 1, 2}, {1, 2, 1}, {2, 1, 1}, {1, 2, 2}, {2, 1, 2}, {2, 2, 1}};
        for (int[] p : parts) {
            GooseLetters x = new GooseLetters();
            x.market(1, 9, 9);
            x.market(1, 4, 5);
            x.market(1, 4, 6);
            StringBuilder code = new StringBuilder("code ");
            int wholes = 0;
            for (int i = 0; i < 3; i++) {
                x.goose(1, 1);
                code.append(i == 0 ? "" : " or ").append("goose=").append(i).append(" and part=").append(p[i]);
                wholes += p[i] == 0 ? 1 : 0;
            }
            Check.text(x, code.append(";").toString());
            x.by(0);
            int most = wholes == 3 ? 93 : wholes == 1 ? 74 : 50;
            due(code + " size", x.plan(0, most, -1), 3);
            for (int i = 0; i < 3; i++) {
                due(code + " of " + i, x.plan(0, most, i), 10 + p[i]);
            }
            due(code + " too much", x.plan(0, most + 1, -1), -2);
        }
    }

    private static void planOfManyGeese() {
        GooseLetters x = new GooseLetters();
        for (int i = 0; i < 4; i++) {
            x.market(1 + i, 8, 9 - i);
        }
        for (int i = 0; i < 10; i++) {
            x.goose(1, 1);
        }
        Check.text(x, "butcher greed - goose / 7;");
        x.by(0);
        due("the three that are eaten least", x.plan(5, 65, -1), 3);
        for (int i = 0; i < 10; i++) {
            due("goose " + i, x.plan(5, 65, i), i < 7 ? -1 : 30);
        }
        due("too much", x.plan(5, 66, -1), -2);
        due("two and the lowest other would be read more", x.plan(5, 60, 0), -1);
    }
}
