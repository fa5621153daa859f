/** Long runs of calls on GooseLetters and on Model, which must answer alike: all promises, right inputs and wrong ones. */
public final class ModelTest {
    private static final int RUNS = 400;
    private static final int CALLS = 400;
    private static final int JOURNEYS = 400;
    private static final int PLANS = 300;

    private final Dice dice;
    private final TextMaker maker;
    private final GooseLetters x = new GooseLetters();
    private final Model m = new Model();
    private final StringBuilder log = new StringBuilder();
    private final boolean plans;
    private boolean failed = false;

    private ModelTest(int seed) {
        dice = new Dice(seed);
        maker = new TextMaker(dice);
        plans = seed % 4 == 0;
    }

    public static void main(String[] args) {
        boolean sound = true;
        for (int seed = 1; seed <= RUNS + JOURNEYS + PLANS && sound; seed++) {
            ModelTest run = new ModelTest(seed);
            if (seed <= RUNS) {
                run.play();
            } else if (seed <= RUNS + JOURNEYS) {
                run.travel();
            } else {
                run.planWell();
            }
            sound = !run.failed;
            if (!sound) {
                System.out.println("run " + seed + ":" + run.log);
            }
        }
        Check.finish();
    }

    /** Many geese on their way with few letters, so that much comes to be known. */
    private void travel() {
        townOf(4 + dice.below(7));
        for (int round = 0; round < 3 && !failed; round++) {
            for (int g = 0; g < m.geese.size(); g++) {
                int letter = dice.below(2);
                int part = dice.below(3);
                int market = dice.below(4);
                if (dice.below(5) > 0) {
                    logged("fill(" + g + ", " + letter + ", " + part + ")", x.fill(g, letter, part), m.fill(g, letter, part));
                }
                if (dice.below(2) == 0) {
                    logged("send(" + g + ", " + market + ")", x.send(g, market), m.send(g, market));
                }
            }
            for (int letter = 0; letter < 2; letter++) {
                oddsOf(letter);
            }
            pass();
            learn();
        }
    }

    private void learn() {
        led();
        for (int letter = 0; letter < 2; letter++) {
            for (int day = 0; day <= m.day + 1 && day < 30; day++) {
                logged("known(" + letter + ", " + day + ")", x.known(letter, day), m.known(letter, day));
            }
            oddsOf(letter);
        }
    }

    private void oddsOf(int letter) {
        for (int who = 0; who < 3; who++) {
            logged("odds(" + letter + ", " + who + ")", x.odds(letter, who, false), m.odds(letter, who, false));
            logged("odds(" + letter + ", " + who + ", low)", x.odds(letter, who, true), m.odds(letter, who, true));
        }
    }

    private void planWell() {
        townOf(2 + dice.below(5));
        if (dice.below(2) == 0) {
            // Halves are worth their geese only where a part counts.
            told(maker.lawsByPart(), true);
        }
        for (int i = 0; i < 4 && !failed; i++) {
            int letter = dice.below(6);
            int p = 1 + dice.below(100);
            int size = m.plan(letter, p, -1);
            logged("plan(" + letter + ", " + p + ")", x.plan(letter, p, -1), size);
            for (int g = 0; g < m.geese.size(); g++) {
                logged("plan(" + letter + ", " + p + ", " + g + ")", x.plan(letter, p, g), m.plan(letter, p, g));
            }
        }
    }

    private void townOf(int geese) {
        int start = dice.below(10000);
        logged("store", bit(x.store(9999, 0)), bit(m.store(9999, 0)));
        logged("seed(" + start + ")", bit(x.seed(start)), bit(m.seed(start)));
        boolean greedy = dice.below(2) == 0;
        for (int i = 0; i < 4; i++) {
            int way = 1 + dice.below(3);
            int greed = greedy ? 5 + dice.below(5) : dice.below(10);
            int eyes = dice.below(10);
            logged("market(" + way + ", " + greed + ", " + eyes + ")", x.market(way, greed, eyes), m.market(way, greed, eyes));
        }
        for (int i = 0; i < geese; i++) {
            goose();
        }
        if (dice.below(3) > 0) {
            text(true);
        }
    }

    private void play() {
        prepare();
        for (int i = 0; i < CALLS && !failed; i++) {
            call();
            for (int what = 0; what < 27 && !failed; what++) {
                alike("about(" + what + ")", x.about(what), m.about(what));
            }
            for (int goose = 0; goose < 10 && i % 8 == 0; goose++) {
                for (int what = 0; what < 10 && !failed; what++) {
                    alike("of(" + goose + ", " + what + ")", x.of(goose, what), m.of(goose, what));
                }
            }
        }
    }

    private void prepare() {
        for (int i = dice.below(5); i > 0; i--) {
            market();
        }
        for (int i = dice.below(plans ? 8 : 11); i > 0; i--) {
            goose();
        }
        store();
        if (dice.below(2) == 0) {
            text(true);
        }
    }

    private void alike(String call, long got, long want) {
        if (got != want) {
            failed = true;
            Check.due(call, got, want);
        }
    }

    private void logged(String call, long got, long want) {
        log.append("\n  ").append(call).append(" ").append(got);
        alike(call, got, want);
    }

    private static int bit(boolean v) {
        return v ? 1 : 0;
    }

    private void call() {
        switch (dice.below(34)) {
            case 0: market(); break;
            case 1: goose(); break;
            case 2: store(); break;
            case 3: seed(); break;
            case 4: case 5: case 6: fill(); break;
            case 7: case 8: case 9: send(); break;
            case 10: fatten(); break;
            case 11: pluck(); break;
            case 12: name(); break;
            case 13: case 14: case 15: pass(); break;
            case 16: case 17: text(dice.below(3) > 0); break;
            case 18: by(); break;
            case 19: played(); break;
            case 20: case 21: undo(); break;
            case 22: ink(); break;
            case 23: case 24: known(); break;
            case 25: led(); break;
            case 26: plucks(); break;
            case 27: case 28: odds(); break;
            case 29: plan(); break;
            case 30: logged("holds", x.holds(), m.holds()); break;
            case 31: image(); break;
            case 32: back(); break;
            default: tape(); break;
        }
    }

    /** Now and then one that is wrong. */
    private int some(int least, int most) {
        int v = dice.below(40);
        return v == 0 ? least - 1 : v == 1 ? most + 1 : least + dice.below(most - least + 1);
    }

    private int someGoose() {
        return dice.below(12) == 0 ? some(0, 9) : some(0, Math.max(0, m.geese.size() - 1));
    }

    private void market() {
        int way = dice.below(3) == 0 ? some(1, 9) : some(1, 3);
        int greed = some(0, 9);
        int eyes = some(0, 9);
        logged("market(" + way + ", " + greed + ", " + eyes + ")", x.market(way, greed, eyes), m.market(way, greed, eyes));
    }

    private void goose() {
        int weight = some(1, 20);
        int feathers = dice.below(2) == 0 ? some(0, 99) : some(0, 12);
        logged("goose(" + weight + ", " + feathers + ")", x.goose(weight, feathers), m.goose(weight, feathers));
    }

    private void store() {
        int grain = dice.below(3) == 0 ? some(0, 9999) : some(0, 300);
        int mouths = dice.below(3) == 0 ? some(0, 99) : some(0, 6);
        logged("store(" + grain + ", " + mouths + ")", bit(x.store(grain, mouths)), bit(m.store(grain, mouths)));
    }

    private void seed() {
        int seed = some(0, 9999);
        logged("seed(" + seed + ")", bit(x.seed(seed)), bit(m.seed(seed)));
    }

    private void fill() {
        int g = someGoose();
        int letter = dice.below(2) == 0 ? some(0, 5) : 2;
        int part = some(0, 2);
        logged("fill(" + g + ", " + letter + ", " + part + ")", x.fill(g, letter, part), m.fill(g, letter, part));
    }

    private void send() {
        int g = someGoose();
        int market = some(0, 3);
        logged("send(" + g + ", " + market + ")", x.send(g, market), m.send(g, market));
    }

    private void fatten() {
        int g = someGoose();
        logged("fatten(" + g + ")", x.fatten(g), m.fatten(g));
    }

    private void pluck() {
        int g = someGoose();
        logged("pluck(" + g + ")", x.pluck(g), m.pluck(g));
    }

    private void name() {
        int g = someGoose();
        logged("name(" + g + ")", bit(x.name(g)), bit(m.name(g)));
    }

    private void pass() {
        int days = dice.below(8) == 0 ? some(1, 99) : some(1, 3);
        logged("pass(" + days + ")", x.pass(days), m.pass(days));
    }

    private void text(boolean rules) {
        told(maker.text(), rules);
    }

    private void told(String bytes, boolean rules) {
        while (m.tape.size() > 0) {
            x.end(0);
            m.end(0);
        }
        for (int i = 0; i < bytes.length(); i += 20) {
            int[] w = Check.words(bytes, i);
            logged("feed " + bytes, x.feed(w[0], w[1], w[2], w[3], w[4]), m.feed(w));
        }
        logged("end", x.end(bytes.length()), m.end(bytes.length()));
        int told = m.text();
        logged("text", x.text(), told);
        logged("fault(0)", x.fault(0), m.fault(0));
        logged("fault(1)", x.fault(1), m.fault(1));
        if (rules && told >= 0) {
            logged("by(" + told + ")", bit(x.by(told)), bit(m.by(told)));
        }
    }

    private void by() {
        int text = some(-1, 3);
        logged("by(" + text + ")", bit(x.by(text)), bit(m.by(text)));
    }

    private void played() {
        int text = some(-1, 3);
        logged("played(" + text + ")", x.played(text), m.played(text));
    }

    private void undo() {
        for (int i = dice.below(dice.below(6) == 0 ? 25 : 3); i >= 0; i--) {
            logged("undo", x.undo(), m.undo());
        }
    }

    private void ink() {
        int g = someGoose();
        int letter = some(0, 5);
        int part = some(0, 2);
        logged("ink(" + g + ", " + letter + ", " + part + ")", x.ink(g, letter, part), m.ink(g, letter, part));
    }

    private void known() {
        int letter = some(0, 5);
        int day = dice.below(4) == 0 ? some(0, 999) : m.day - dice.below(4);
        logged("known(" + letter + ", " + day + ")", x.known(letter, day), m.known(letter, day));
    }

    private void led() {
        for (int letter = -1; letter <= 6; letter++) {
            logged("led(" + letter + ")", x.led(letter, false), m.led(letter, false));
            logged("led(" + letter + ", enemy)", x.led(letter, true), m.led(letter, true));
            logged("answer(" + letter + ")", x.answer(letter), m.answer(letter));
        }
    }

    private void plucks() {
        int g = someGoose();
        logged("plucks(" + g + ")", x.plucks(g), m.plucks(g));
    }

    private void odds() {
        int letter = dice.below(3) == 0 ? some(0, 5) : 2;
        int who = some(0, 2);
        logged("odds(" + letter + ", " + who + ")", x.odds(letter, who, false), m.odds(letter, who, false));
        logged("odds(" + letter + ", " + who + ", low)", x.odds(letter, who, true), m.odds(letter, who, true));
    }

    private void plan() {
        if (!plans) {
            return;
        }
        int letter = some(0, 5);
        int p = some(1, 100);
        int size = m.plan(letter, p, -1);
        logged("plan(" + letter + ", " + p + ")", x.plan(letter, p, -1), size);
        for (int g = -2; g < 11 && size > 0; g++) {
            logged("plan(" + letter + ", " + p + ", " + g + ")", x.plan(letter, p, g), m.plan(letter, p, g));
        }
    }

    private void image() {
        logged("image", x.image(), m.image());
    }

    private void back() {
        logged("back", x.back(), m.back());
        logged("fault(0)", x.fault(0), m.fault(0));
    }

    private void tape() {
        int n = dice.below(320) - 5;
        logged("end(" + n + ")", x.end(n), m.end(n));
        int a = dice.below(2147483647);
        logged("feed(" + a + ")", x.feed(a, -a, a * 3, a * 5, a * 7), m.feed(a, -a, a * 3, a * 5, a * 7));
    }
}
