/** Promises 1 to 11, 18, 19 and 27 to 30: the town, its geese, days, steps and the image. */
public final class TownTest {
    public static void main(String[] args) {
        newObject();
        markets();
        geese();
        storeAndSeed();
        fills();
        sends();
        fattensPlucksNames();
        days();
        draws();
        hunger();
        undoes();
        twentySteps();
        ring();
        gooseToldSince();
        holds();
        images();
        firstImage();
        abouts();
        Check.finish();
    }

    private static void due(String what, long got, long want) {
        Check.due(what, got, want);
    }

    private static void due(String what, boolean got, boolean want) {
        Check.due(what, got, want);
    }

    private static void newObject() {
        GooseLetters x = new GooseLetters();
        int[] first = {0, 0, 0, 0, 0, 9, 0, -1, 0, 0, -2};
        for (int i = 0; i < first.length; i++) {
            due("new about " + i, x.about(i), first[i]);
        }
        for (int i = 20; i < 26; i++) {
            due("new about " + i, x.about(i), 0);
        }
        due("new of", x.of(0, 0), -2);
        due("new undo", x.undo(), -1);
        due("new back", x.back(), 0);
        due("new pass", x.pass(1), 1);
    }

    private static void markets() {
        GooseLetters x = new GooseLetters();
        int[][] wrong = {{0, 0, 0}, {10, 0, 0}, {1, -1, 0}, {1, 10, 0}, {1, 0, -1}, {1, 0, 10}, {-2147483648, 0, 0}};
        for (int[] w : wrong) {
            due("wrong market", x.market(w[0], w[1], w[2]), -1);
        }
        due("market 0", x.market(1, 0, 0), 0);
        due("market 1", x.market(9, 9, 9), 1);
        due("market 2", x.market(3, 4, 5), 2);
        due("market 3", x.market(5, 0, 9), 3);
        due("market 4", x.market(1, 1, 1), -1);
        due("markets", x.about(0), 4);
        int[] told = {100, 999, 345, 509};
        for (int i = 0; i < 4; i++) {
            due("about market " + i, x.about(10 + i), told[i]);
        }
        due("about market 4", x.about(14), -2);
        due("a market is no step", x.about(8), 0);
    }

    private static void geese() {
        GooseLetters x = new GooseLetters();
        int[][] wrong = {{0, 0}, {21, 0}, {1, -1}, {1, 100}, {-1, 5}};
        for (int[] w : wrong) {
            due("wrong goose", x.goose(w[0], w[1]), -1);
        }
        for (int i = 0; i < 10; i++) {
            due("goose " + i, x.goose(i == 0 ? 1 : 20, i == 0 ? 0 : 99), i);
        }
        due("goose 10", x.goose(1, 1), -1);
        due("geese", x.about(1), 10);
        due("home", x.about(20), 10);
        int[] fresh = {20, 99, -1, -1, 0, -1, -1, -1, 0, 1, -2};
        for (int i = 0; i < fresh.length; i++) {
            due("of a fresh goose " + i, x.of(9, i), fresh[i]);
        }
        due("of goose 0", x.of(0, 0), 1);
        due("of what -1", x.of(0, -1), -2);
        due("of goose -1", x.of(-1, 0), -2);
        due("of goose 10", x.of(10, 0), -2);
        due("a goose is no step", x.about(8), 0);
    }

    private static void storeAndSeed() {
        GooseLetters x = new GooseLetters();
        due("store", x.store(9999, 99), true);
        int[][] wrong = {{-1, 0}, {10000, 0}, {0, -1}, {0, 100}};
        for (int[] w : wrong) {
            due("wrong store", x.store(w[0], w[1]), false);
        }
        due("grain", x.about(2), 9999);
        due("mouths", x.about(3), 99);
        due("store nothing", x.store(0, 0), true);
        due("no grain", x.about(2), 0);
        due("seed", x.seed(9999), true);
        due("x", x.about(5), 109998);
        due("wrong seed", x.seed(-1), false);
        due("wrong seed", x.seed(10000), false);
        due("x stays", x.about(5), 109998);
        due("seed 1", x.seed(1), true);
        due("x of seed 1", x.about(5), 20);
        due("no steps", x.about(8), 0);
    }

    private static void fills() {
        GooseLetters x = new GooseLetters();
        x.market(1, 0, 0);
        x.goose(5, 5);
        x.goose(6, 6);
        x.goose(7, 7);
        due("fill without grain", x.fill(0, 0, 0), -1);
        x.store(2, 0);
        int[][] wrong = {{-1, 0, 0}, {3, 0, 0}, {0, -1, 0}, {0, 6, 0}, {0, 0, -1}, {0, 0, 3}};
        for (int[] w : wrong) {
            due("wrong fill", x.fill(w[0], w[1], w[2]), -1);
        }
        due("fill", x.fill(0, 5, 2), 1);
        due("letter", x.of(0, 2), 5);
        due("part", x.of(0, 3), 2);
        due("fill twice", x.fill(0, 5, 2), -1);
        due("send", x.send(1, 0), 1);
        due("fill on the way", x.fill(1, 0, 0), -1);
        due("name", x.name(2), true);
        due("fill a named one", x.fill(2, 0, 1), 0);
        due("steps", x.about(8), 4);
        due("ink of anything", x.ink(1, 0, 0), 1);
        due("ink of a filled one", x.ink(0, 0, 0), 1);
        int[][] others = {{-1, 0, 0}, {3, 0, 0}, {0, -1, 0}, {0, 6, 0}, {0, 0, -1}, {0, 0, 3}};
        for (int[] w : others) {
            due("wrong ink", x.ink(w[0], w[1], w[2]), -1);
        }
    }

    private static void sends() {
        GooseLetters x = new GooseLetters();
        x.goose(5, 5);
        due("send to none", x.send(0, 0), -1);
        x.market(9, 0, 0);
        x.goose(5, 5);
        x.store(100, 0);
        due("wrong goose", x.send(2, 0), -1);
        due("wrong goose", x.send(-1, 0), -1);
        due("wrong market", x.send(0, 1), -1);
        due("wrong market", x.send(0, -1), -1);
        due("steps", x.about(8), 0);
        x.pass(3);
        due("send", x.send(0, 0), 12);
        due("fate", x.of(0, 4), 1);
        due("market", x.of(0, 5), 0);
        due("there", x.of(0, 6), 12);
        due("then", x.of(0, 7), -1);
        due("send twice", x.send(0, 0), -1);
        x.name(1);
        due("send a named one", x.send(1, 0), -1);
        due("on the way", x.about(21), 1);
        x.pass(9);
        due("with friends", x.of(0, 4), 2);
        due("then", x.of(0, 7), 12);
        due("send from there", x.send(0, 0), -1);
    }

    private static void fattensPlucksNames() {
        GooseLetters x = new GooseLetters();
        x.market(2, 0, 0);
        x.goose(19, 1);
        x.goose(1, 0);
        due("fatten without grain", x.fatten(0), -1);
        x.store(5, 0);
        due("fatten", x.fatten(0), 20);
        due("fatten above 20", x.fatten(0), -1);
        due("grain", x.about(2), 4);
        due("wrong fatten", x.fatten(2), -1);
        due("wrong fatten", x.fatten(-1), -1);
        due("pluck", x.pluck(0), 0);
        due("pluck a bare one", x.pluck(0), -1);
        due("wrong pluck", x.pluck(2), -1);
        due("wrong pluck", x.pluck(-1), -1);
        due("name", x.name(0), true);
        due("name twice", x.name(0), false);
        due("named", x.of(0, 8), 1);
        due("wrong name", x.name(2), false);
        due("wrong name", x.name(-1), false);
        x.send(1, 0);
        due("fatten on the way", x.fatten(1), -1);
        due("pluck on the way", x.pluck(1), -1);
        due("name on the way", x.name(1), false);
        due("steps", x.about(8), 4);
    }

    private static void days() {
        GooseLetters x = new GooseLetters();
        due("pass 0", x.pass(0), -1);
        due("pass 100", x.pass(100), -1);
        due("pass -1", x.pass(-1), -1);
        for (int i = 1; i <= 10; i++) {
            due("pass 99", x.pass(99), 99 * i);
        }
        due("pass 10", x.pass(10), -1);
        due("day stays", x.about(4), 990);
        x.market(9, 0, 0);
        x.market(8, 0, 0);
        x.goose(1, 0);
        x.goose(1, 0);
        due("there on 999", x.send(0, 0), 999);
        due("pass 1", x.pass(1), 991);
        due("pass 8", x.pass(8), 999);
        due("arrived", x.of(0, 7), 999);
        due("pass beyond", x.pass(1), -1);
        due("its weight is grain", x.about(2), 1);
        due("eaten at home", x.of(1, 4), 5);
    }

    /** X is 9, 1474, 20982, 16496, 3827, 29551, ..: draws 9, 4, 2, 6, 7, 1, .. . */
    private static void draws() {
        GooseLetters x = new GooseLetters();
        x.market(1, 5, 2);
        x.market(1, 9, 9);
        x.market(1, 3, 3);
        for (int i = 0; i < 5; i++) {
            x.goose(3, 0);
        }
        x.store(100, 0);
        x.fill(0, 0, 0);
        x.fill(1, 0, 0);
        x.fill(3, 0, 0);
        x.send(0, 0);
        x.send(1, 0);
        x.send(2, 1);
        x.send(3, 2);
        due("pass", x.pass(1), 1);
        due("9 is not below 5", x.of(0, 4), 2);
        due("4 is below 5, 2 not below 2", x.of(1, 4), 3);
        due("6 is below 9, without a quill no second draw", x.of(2, 4), 3);
        due("7 is not below 3", x.of(3, 4), 2);
        due("at home", x.of(4, 4), 0);
        due("x", x.about(5), 29551);
        due("friends", x.about(22), 2);
        due("eaten", x.about(23), 2);
        due("one fed", x.about(2), 96);
        x.seed(1);
        x.fill(4, 1, 1);
        x.send(4, 1);
        x.pass(1);
        due("0 below 9, x 3201 1 below 9", x.of(4, 4), 4);
        due("then", x.of(4, 7), 2);
        due("read", x.about(24), 1);
    }

    private static void hunger() {
        GooseLetters x = new GooseLetters();
        x.goose(7, 0);
        x.goose(4, 0);
        x.goose(9, 0);
        x.name(0);
        x.store(7, 4);
        x.pass(1);
        due("just enough", x.about(2), 0);
        due("all home", x.about(20), 3);
        x.pass(1);
        due("the lowest not named", x.of(1, 4), 5);
        due("its weight", x.about(2), 4);
        due("then", x.of(1, 7), 2);
        due("never sent", x.of(1, 5), -1);
        x.pass(1);
        due("the next", x.of(2, 4), 5);
        due("its weight", x.about(2), 9);
        x.pass(1);
        due("fed again", x.about(2), 4);
        x.pass(1);
        due("nothing left", x.about(2), 0);
        due("named ones stay", x.of(0, 4), 0);
    }

    private static void undoes() {
        GooseLetters x = new GooseLetters();
        x.market(1, 9, 9);
        x.goose(5, 5);
        x.store(50, 1);
        x.fill(0, 3, 1);
        x.fatten(0);
        x.pluck(0);
        x.send(0, 0);
        x.goose(2, 2);
        x.name(1);
        x.seed(7);
        x.pass(2);
        x.store(9, 3);
        x.seed(8);
        due("steps", x.about(8), 6);
        due("undo pass", x.undo(), 5);
        due("day", x.about(4), 0);
        due("x as ahead of the pass", x.about(5), 86);
        due("grain as ahead of the pass", x.about(2), 48);
        due("mouths stay", x.about(3), 3);
        due("on its way again", x.of(0, 4), 1);
        due("not there yet", x.of(0, 7), -1);
        due("undo name", x.undo(), 4);
        due("not named", x.of(1, 8), 0);
        due("x as ahead of the name", x.about(5), 9);
        due("undo send", x.undo(), 3);
        due("told since stays", x.of(1, 0), 2);
        due("home again", x.of(0, 4), 0);
        due("no market", x.of(0, 5), -1);
        due("not there", x.of(0, 6), -1);
        due("undo pluck", x.undo(), 2);
        due("feathers", x.of(0, 1), 5);
        due("undo fatten", x.undo(), 1);
        due("weight", x.of(0, 0), 5);
        due("undo fill", x.undo(), 0);
        due("no letter", x.of(0, 2), -1);
        due("no part", x.of(0, 3), -1);
        due("grain", x.about(2), 50);
        due("undo none", x.undo(), -1);
        due("geese", x.about(1), 2);
    }

    private static void twentySteps() {
        GooseLetters x = new GooseLetters();
        for (int i = 1; i <= 25; i++) {
            x.pass(1);
            due("steps", x.about(8), Math.min(20, i));
        }
        for (int i = 19; i >= 0; i--) {
            due("undo", x.undo(), i);
        }
        due("undo beyond", x.undo(), -1);
        due("day", x.about(4), 5);
    }

    private static void ring() {
        GooseLetters x = new GooseLetters();
        for (int i = 0; i < 27; i++) {
            x.pass(1);
        }
        for (int i = 0; i < 8; i++) {
            x.undo();
        }
        due("day", x.about(4), 19);
        for (int i = 0; i < 15; i++) {
            x.pass(2);
        }
        due("day", x.about(4), 49);
        due("steps", x.about(8), 20);
        for (int i = 0; i < 20; i++) {
            x.undo();
        }
        due("day", x.about(4), 14);
    }

    private static void gooseToldSince() {
        GooseLetters x = new GooseLetters();
        x.store(30, 0);
        x.goose(3, 3);
        x.pass(1);
        x.goose(4, 4);
        x.fatten(1);
        x.pluck(0);
        due("undo", x.undo(), 2);
        due("undo", x.undo(), 1);
        due("as told", x.of(1, 0), 4);
        due("undo", x.undo(), 0);
        due("stays", x.of(1, 0), 4);
        due("geese", x.about(1), 2);
        due("grain", x.about(2), 30);
        due("the next goose", x.goose(5, 5), 2);
    }

    private static void holds() {
        GooseLetters x = new GooseLetters();
        due("no need", x.holds(), 999);
        x.store(9999, 1);
        due("999 at most", x.holds(), 999);
        x.store(998, 1);
        due("998", x.holds(), 998);
        x.goose(1, 1);
        x.goose(1, 1);
        x.market(1, 0, 0);
        due("of three", x.holds(), 332);
        x.send(0, 0);
        due("of two", x.holds(), 499);
        x.store(1, 5);
        due("not one", x.holds(), 0);
        x.store(0, 0);
        x.name(1);
        due("a named one eats", x.holds(), 0);
    }

    private static void images() {
        GooseLetters x = new GooseLetters();
        x.market(2, 3, 4);
        x.goose(5, 6);
        x.store(40, 2);
        x.seed(3);
        x.pass(4);
        Check.text(x, "ink 2;");
        x.by(0);
        due("image", x.image(), 4);
        x.market(1, 1, 1);
        x.goose(1, 1);
        x.fill(0, 1, 1);
        x.send(0, 0);
        x.pass(3);
        x.store(1, 1);
        Check.text(x, "ink 3;");
        x.by(1);
        Check.tape(x, "ink 4;");
        due("back", x.back(), 4);
        int[] want = {1, 1, 28, 2, 4, 42, 1, 0, 1, 6};
        for (int i = 0; i < want.length; i++) {
            due("behind going back " + i, x.about(i), want[i]);
        }
        due("market 1 is gone", x.about(11), -2);
        due("goose 1 is gone", x.of(1, 0), -2);
        due("home", x.of(0, 4), 0);
        due("text 1 is gone", x.by(1), false);
        due("the tape stays", x.text(), 1);
        due("its law", x.by(1), true);
        due("ink", x.ink(0, 0, 0), 4);
        due("again", x.back(), 4);
        due("ink", x.ink(0, 0, 0), 2);
        Check.text(x, "ink");
        x.back();
        due("the fault stays", x.fault(0), 1);
        due("its place stays", x.fault(1), 3);
        due("undo behind going back", x.undo(), 0);
        due("day", x.about(4), 0);
        due("grain", x.about(2), 40);
        due("steps are back", x.back(), 4);
        due("steps", x.about(8), 1);
    }

    private static void firstImage() {
        GooseLetters x = new GooseLetters();
        x.market(2, 3, 4);
        x.goose(5, 6);
        x.seed(5);
        x.pass(7);
        due("back to the new object", x.back(), 0);
        due("markets", x.about(0), 0);
        due("geese", x.about(1), 0);
        due("x", x.about(5), 9);
        due("steps", x.about(8), 0);
        due("goose", x.goose(9, 9), 0);
        due("fresh", x.of(0, 4), 0);
    }

    private static void abouts() {
        GooseLetters x = new GooseLetters();
        int[] others = {-1, 10, 13, 14, 19, 26, 100, -2147483648, 2147483647};
        for (int what : others) {
            due("about " + what, x.about(what), -2);
        }
        x.feed(0, 0, 0, 0, 0);
        due("bytes", x.about(9), 20);
        Check.due("NONE", GooseLetters.NONE, -1);
    }
}
