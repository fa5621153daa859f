import java.util.function.Consumer;
import java.util.function.ToLongFunction;

/**
 * A refused call changes nothing that later calls show: each one is made on one of two objects that are else used
 * alike, and both are looked at, at once and behind undoing, passing, reading the tape and going back.
 */
public final class RefusedTest {
    private static final int MIN = Integer.MIN_VALUE;
    private static final int MAX = Integer.MAX_VALUE;

    private final String town;
    private final Consumer<GooseLetters> builder;

    private RefusedTest(String town, Consumer<GooseLetters> builder) {
        this.town = town;
        this.builder = builder;
    }

    public static void main(String[] args) {
        towns();
        inAnyTown(new RefusedTest("a new object", x -> { }));
        inAnyTown(new RefusedTest("a busy town", RefusedTest::busy));
        inAnyTown(new RefusedTest("a full town", RefusedTest::full));
        newObject(new RefusedTest("a new object", x -> { }));
        busyTown(new RefusedTest("a busy town", RefusedTest::busy));
        fullTown(new RefusedTest("a full town", RefusedTest::full));
        for (int daysLeft = 0; daysLeft < 3; daysLeft++) {
            lastDays(daysLeft);
        }
        looks(new RefusedTest("a busy town", RefusedTest::busy));
        Check.finish();
    }

    /**
     * Goose 0 eaten at home, 1 on its way, 2 with friends, 3 eaten, 4 read; at home 5, plain, 6 with a quill, 7 named,
     * 8 of weight 20 without feathers. A text rules, one more is told, one was refused; the tape has a text.
     */
    private static void busy(GooseLetters x) {
        x.market(1, 0, 0);
        x.market(1, 9, 9);
        x.market(9, 5, 5);
        x.goose(5, 5);
        x.store(0, 1);
        x.pass(1);
        for (int i = 1; i < 8; i++) {
            x.goose(3 + i, 10 + i);
        }
        x.goose(20, 0);
        x.store(500, 3);
        x.seed(77);
        Check.text(x, "butcher market*10; reader letter*10; code feathers > 9; ink part + 2;");
        x.by(0);
        Check.text(x, "fatten 5; pass 2; send 4 to 0; pass 1;");
        Check.text(x, "ink 1 + ;");
        x.fill(2, 0, 0);
        x.fill(3, 0, 1);
        x.fill(4, 1, 0);
        x.fill(6, 2, 2);
        x.image();
        x.send(1, 2);
        x.send(2, 0);
        x.send(3, 1);
        x.send(4, 1);
        x.name(7);
        x.pass(1);
        Check.tape(x, "ink 7; code 1 = 1;");
    }

    /** Four markets, ten geese, four texts, a full tape, twenty steps and more, no grain. */
    private static void full(GooseLetters x) {
        for (int i = 0; i < 4; i++) {
            x.market(1 + i, 2 * i, 9 - i);
        }
        for (int i = 0; i < 10; i++) {
            x.goose(20, 0);
        }
        for (int i = 0; i < 4; i++) {
            Check.text(x, "ink " + i + "; send " + i + " to " + i + ";");
        }
        x.by(1);
        x.store(9999, 0);
        x.fill(9, 5, 1);
        for (int i = 0; i < 22; i++) {
            x.pass(1);
        }
        x.image();
        x.store(0, 99);
        Check.tape(x, "code weight = 20;" + " ".repeat(283));
    }

    private GooseLetters built() {
        GooseLetters x = new GooseLetters();
        builder.accept(x);
        return x;
    }

    private void refused(String call, ToLongFunction<GooseLetters> deed, long answer) {
        String what = "in " + town + ", " + call;
        Check.due(what, deed.applyAsLong(built()), answer);
        alike(what + " then nothing", deed, x -> { });
        alike(what + " then undo", deed, x -> {
            for (int i = 0; i < 20; i++) {
                x.undo();
            }
        });
        alike(what + " then pass", deed, x -> {
            x.pass(1);
            x.pass(9);
        });
        alike(what + " then text", deed, x -> {
            x.text();
            x.by(x.about(6) - 1);
        });
        alike(what + " then back", deed, GooseLetters::back);
        alike(what + " then image", deed, x -> {
            x.image();
            x.pass(3);
            x.back();
        });
    }

    private void alike(String what, ToLongFunction<GooseLetters> deed, Consumer<GooseLetters> after) {
        GooseLetters without = built();
        after.accept(without);
        GooseLetters with = built();
        deed.applyAsLong(with);
        after.accept(with);
        Picture.of(with).dueAs(what, Picture.of(without));
    }

    /** Inputs that are others in every state. */
    private static void inAnyTown(RefusedTest in) {
        int[][] markets = {{0, 5, 5}, {10, 5, 5}, {5, -1, 5}, {5, 10, 5}, {5, 5, -1}, {5, 5, 10}, {MIN, 5, 5}, {MAX, 5, 5}};
        for (int[] m : markets) {
            in.refused("market(" + m[0] + ", " + m[1] + ", " + m[2] + ")", x -> x.market(m[0], m[1], m[2]), -1);
        }
        int[][] geese = {{0, 5}, {21, 5}, {5, -1}, {5, 100}, {MIN, 5}, {5, MAX}};
        for (int[] g : geese) {
            in.refused("goose(" + g[0] + ", " + g[1] + ")", x -> x.goose(g[0], g[1]), -1);
        }
        int[][] stores = {{-1, 5}, {10000, 5}, {5, -1}, {5, 100}, {MAX, 5}, {5, MIN}};
        for (int[] s : stores) {
            in.refused("store(" + s[0] + ", " + s[1] + ")", x -> x.store(s[0], s[1]) ? 1 : 0, 0);
        }
        for (int seed : new int[] {-1, 10000, MIN, MAX}) {
            in.refused("seed(" + seed + ")", x -> x.seed(seed) ? 1 : 0, 0);
        }
        for (int goose : new int[] {-1, 10, MIN, MAX}) {
            in.refused("fill(" + goose + ", 0, 0)", x -> x.fill(goose, 0, 0), -1);
            in.refused("send(" + goose + ", 0)", x -> x.send(goose, 0), -1);
            in.refused("fatten(" + goose + ")", x -> x.fatten(goose), -1);
            in.refused("pluck(" + goose + ")", x -> x.pluck(goose), -1);
            in.refused("name(" + goose + ")", x -> x.name(goose) ? 1 : 0, 0);
        }
        for (int days : new int[] {0, -1, 100, MIN, MAX}) {
            in.refused("pass(" + days + ")", x -> x.pass(days), -1);
        }
        for (int n : new int[] {-1, 301, MIN, MAX}) {
            in.refused("end(" + n + ")", x -> x.end(n), -1);
        }
        for (int text : new int[] {-2, 4, MIN, MAX}) {
            in.refused("by(" + text + ")", x -> x.by(text) ? 1 : 0, 0);
            in.refused("played(" + text + ")", x -> x.played(text), -2);
        }
        in.refused("played(-1)", x -> x.played(-1), -2);
    }

    private static void newObject(RefusedTest in) {
        in.refused("fill(0, 0, 0)", x -> x.fill(0, 0, 0), -1);
        in.refused("send(0, 0)", x -> x.send(0, 0), -1);
        in.refused("fatten(0)", x -> x.fatten(0), -1);
        in.refused("pluck(0)", x -> x.pluck(0), -1);
        in.refused("name(0)", x -> x.name(0) ? 1 : 0, 0);
        in.refused("end(1)", x -> x.end(1), -1);
        in.refused("by(0)", x -> x.by(0) ? 1 : 0, 0);
        in.refused("played(0)", x -> x.played(0), -2);
        in.refused("undo()", GooseLetters::undo, -1);
        in.refused("back()", GooseLetters::back, 0);
    }

    private static void busyTown(RefusedTest in) {
        for (int goose = 0; goose <= 4; goose++) {
            int away = goose;
            in.refused("fill(" + away + ", 0, 0)", x -> x.fill(away, 0, 0), -1);
            in.refused("send(" + away + ", 0)", x -> x.send(away, 0), -1);
            in.refused("fatten(" + away + ")", x -> x.fatten(away), -1);
            in.refused("pluck(" + away + ")", x -> x.pluck(away), -1);
            in.refused("name(" + away + ")", x -> x.name(away) ? 1 : 0, 0);
        }
        int[][] fills = {{5, -1, 0}, {5, 6, 0}, {5, 0, -1}, {5, 0, 3}, {5, MIN, 0}, {5, 0, MAX}, {6, 2, 2}, {6, 0, 0}, {9, 0, 0}};
        for (int[] f : fills) {
            in.refused("fill(" + f[0] + ", " + f[1] + ", " + f[2] + ")", x -> x.fill(f[0], f[1], f[2]), -1);
        }
        for (int market : new int[] {-1, 3, 4, MIN, MAX}) {
            in.refused("send(5, " + market + ")", x -> x.send(5, market), -1);
        }
        in.refused("send(7, 0)", x -> x.send(7, 0), -1);
        in.refused("send(9, 0)", x -> x.send(9, 0), -1);
        in.refused("name(7)", x -> x.name(7) ? 1 : 0, 0);
        in.refused("name(9)", x -> x.name(9) ? 1 : 0, 0);
        in.refused("fatten(8)", x -> x.fatten(8), -1);
        in.refused("fatten(9)", x -> x.fatten(9), -1);
        in.refused("pluck(8)", x -> x.pluck(8), -1);
        in.refused("pluck(9)", x -> x.pluck(9), -1);
        in.refused("end(19)", x -> x.end(19), -1);
        in.refused("by(2)", x -> x.by(2) ? 1 : 0, 0);
        in.refused("played(2)", x -> x.played(2), -2);
    }

    private static void fullTown(RefusedTest in) {
        in.refused("market(5, 5, 5)", x -> x.market(5, 5, 5), -1);
        in.refused("goose(5, 5)", x -> x.goose(5, 5), -1);
        in.refused("fill(0, 0, 0)", x -> x.fill(0, 0, 0), -1);
        in.refused("fatten(0)", x -> x.fatten(0), -1);
        in.refused("pluck(0)", x -> x.pluck(0), -1);
        in.refused("feed(1, 2, 3, 4, 5)", x -> x.feed(1, 2, 3, 4, 5), -1);
        in.refused("text()", GooseLetters::text, -1);
        in.refused("send(0, 4)", x -> x.send(0, 4), -1);
    }

    private static void late(GooseLetters x, int daysLeft) {
        x.market(2, 5, 5);
        x.goose(3, 3);
        x.goose(4, 4);
        for (int i = 0; i < 10; i++) {
            x.pass(99);
        }
        x.pass(9 - daysLeft);
        x.goose(5, 5);
        x.goose(6, 6);
        x.store(50, 1);
        x.send(2, 0);
    }

    /** Days beyond 999 don't pass, not even those up to it. */
    private static void lastDays(int daysLeft) {
        RefusedTest in = new RefusedTest(daysLeft + " days ahead of the last", x -> late(x, daysLeft));
        Check.due("the day " + daysLeft + " ahead of the last", in.built().about(4), 999 - daysLeft);
        in.refused("pass(" + (daysLeft + 1) + ")", x -> x.pass(daysLeft + 1), -1);
        in.refused("pass(99)", x -> x.pass(99), -1);
    }

    /** The towns are what is said of them: else refusals would show little. */
    private static void towns() {
        GooseLetters x = new GooseLetters();
        busy(x);
        int[] fates = {5, 1, 2, 3, 4, 0, 0, 0, 0};
        for (int goose = 0; goose < fates.length; goose++) {
            Check.due("fate of goose " + goose + " in a busy town", x.of(goose, 4), fates[goose]);
        }
        Check.due("its quill", x.of(6, 2), 2);
        Check.due("named", x.of(7, 8), 1);
        Check.due("fault", x.fault(0), 1);
        Check.due("texts", x.about(6), 2);
        Check.due("tape", x.about(9), 18);
        GooseLetters y = new GooseLetters();
        full(y);
        int[] want = {4, 10, 0, 99, 22, 9, 4, 1, 20, 300};
        for (int what = 0; what < want.length; what++) {
            Check.due("about(" + what + ") of a full town", y.about(what), want[what]);
        }
    }

    /** Looking, with right inputs and wrong ones, changes nothing either. */
    private static void looks(RefusedTest in) {
        for (int n : new int[] {MIN, -2, -1, 0, 1, 4, 5, 6, 8, 9, 10, 100, 101, 999, 1000, MAX}) {
            in.alike("looking at " + n, x -> look(x, n), x -> { });
            in.alike("looking at " + n + " then pass", x -> look(x, n), x -> x.pass(5));
            in.alike("looking at " + n + " then undo", x -> look(x, n), GooseLetters::undo);
        }
    }

    private static long look(GooseLetters x, int n) {
        return x.of(n, 9) + x.of(5, n) + x.ink(n, 0, 0) + x.ink(5, n, 0) + x.ink(5, 0, n) + x.known(n, 0) + x.known(0, n)
            + x.led(n, true) + x.led(n, false) + x.answer(n) + x.plucks(n) + x.odds(n, 0, true) + x.odds(0, n, false)
            + x.plan(n, 50, -1) + x.plan(0, n, -1) + x.plan(0, 50, n) + x.fault(n) + x.about(n) + x.holds();
    }
}
