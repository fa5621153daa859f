import java.math.BigInteger;
import java.util.ArrayDeque;
import java.util.ArrayList;
import java.util.Arrays;
import java.util.Deque;
import java.util.HashMap;
import java.util.List;
import java.util.Map;

/**
 * The document once more, written without a look at GooseLetters: plain objects, copies of everything, a parser by a stack
 * of what is expected, laws worked out from their tokens each time, odds and plans by trying out all that can happen.
 */
final class Model {
    static final class Goose {
        int weight;
        int feathers;
        int letter = -1;
        int part = -1;
        int fate = 0;
        int market = -1;
        int there = -1;
        int then = -1;
        boolean named = false;

        Goose(int weight, int feathers) {
            this.weight = weight;
            this.feathers = feathers;
        }

        Goose copy() {
            Goose g = new Goose(weight, feathers);
            g.letter = letter;
            g.part = part;
            g.fate = fate;
            g.market = market;
            g.there = there;
            g.then = then;
            g.named = named;
            return g;
        }
    }

    static final class Step {
        List<Goose> geese;
        int grain;
        int day;
        int x;
    }

    static final class Token {
        final String sign;
        final int place;

        Token(String sign, int place) {
            this.sign = sign;
            this.place = place;
        }
    }

    static final class Script {
        final List<List<String>> clauses = new ArrayList<>();
        final Map<String, List<String>> laws = new HashMap<>();
    }

    static final class Fault extends Exception {
        private static final long serialVersionUID = 1;
        final int what;
        final int place;

        Fault(int what, int place) {
            this.what = what;
            this.place = place;
        }
    }

    List<int[]> markets = new ArrayList<>();
    List<Goose> geese = new ArrayList<>();
    List<Script> texts = new ArrayList<>();
    Deque<Step> steps = new ArrayDeque<>();
    int grain = 0;
    int mouths = 0;
    int day = 0;
    int x = 9;
    int ruling = -1;
    List<Integer> tape = new ArrayList<>();
    int fault = -1;
    int place = -1;
    private Model image = null;

    Model() {
        image = new Model(this);
    }

    private Model(Model m) {
        take(m);
    }

    private void take(Model m) {
        markets = new ArrayList<>(m.markets);
        geese = copies(m.geese);
        texts = new ArrayList<>(m.texts);
        steps = new ArrayDeque<>(m.steps);
        grain = m.grain;
        mouths = m.mouths;
        day = m.day;
        x = m.x;
        ruling = m.ruling;
    }

    private static List<Goose> copies(List<Goose> geese) {
        List<Goose> all = new ArrayList<>();
        for (Goose g : geese) {
            all.add(g.copy());
        }
        return all;
    }

    private static boolean in(int v, int least, int most) {
        return v >= least && v <= most;
    }

    private Goose at(int goose) {
        return in(goose, 0, geese.size() - 1) ? geese.get(goose) : null;
    }

    private void keep() {
        Step s = new Step();
        s.geese = copies(geese);
        s.grain = grain;
        s.day = day;
        s.x = x;
        steps.addLast(s);
        if (steps.size() > 20) {
            steps.removeFirst();
        }
    }

    int market(int way, int greed, int eyes) {
        if (!in(way, 1, 9) || !in(greed, 0, 9) || !in(eyes, 0, 9) || markets.size() == 4) {
            return -1;
        }
        markets.add(new int[] {way, greed, eyes});
        return markets.size() - 1;
    }

    int goose(int weight, int feathers) {
        if (!in(weight, 1, 20) || !in(feathers, 0, 99) || geese.size() == 10) {
            return -1;
        }
        geese.add(new Goose(weight, feathers));
        return geese.size() - 1;
    }

    boolean store(int newGrain, int newMouths) {
        if (!in(newGrain, 0, 9999) || !in(newMouths, 0, 99)) {
            return false;
        }
        grain = newGrain;
        mouths = newMouths;
        return true;
    }

    boolean seed(int seed) {
        if (!in(seed, 0, 9999)) {
            return false;
        }
        x = seed * 11 + 9;
        return true;
    }

    int fill(int goose, int letter, int part) {
        Goose g = at(goose);
        int cost = ink(goose, letter, part);
        if (cost < 0 || g.fate != 0 || g.letter >= 0 || cost > grain) {
            return -1;
        }
        keep();
        grain -= cost;
        g.letter = letter;
        g.part = part;
        return grain;
    }

    int send(int goose, int market) {
        Goose g = at(goose);
        if (g == null || !in(market, 0, markets.size() - 1) || g.fate != 0 || g.named) {
            return -1;
        }
        keep();
        g.fate = 1;
        g.market = market;
        g.there = day + markets.get(market)[0];
        return g.there;
    }

    int fatten(int goose) {
        Goose g = at(goose);
        if (g == null || g.fate != 0 || g.weight == 20 || grain == 0) {
            return -1;
        }
        keep();
        grain--;
        return ++g.weight;
    }

    int pluck(int goose) {
        Goose g = at(goose);
        if (g == null || g.fate != 0 || g.feathers == 0) {
            return -1;
        }
        keep();
        return --g.feathers;
    }

    boolean name(int goose) {
        Goose g = at(goose);
        if (g == null || g.fate != 0 || g.named) {
            return false;
        }
        keep();
        g.named = true;
        return true;
    }

    private int draw() {
        int d = x % 10;
        x = (x * 157 + 61) % 30071;
        return d;
    }

    int pass(int days) {
        if (!in(days, 1, 99) || day + days > 999) {
            return -1;
        }
        keep();
        for (int i = 0; i < days; i++) {
            day++;
            for (int n = 0; n < geese.size(); n++) {
                Goose g = geese.get(n);
                if (g.fate == 1 && g.there == day) {
                    g.then = day;
                    g.fate = 2;
                    if (draw() < butcher(n, g, g.market, day)) {
                        g.fate = 3;
                        if (g.letter >= 0 && draw() < reader(n, g, g.market, day)) {
                            g.fate = 4;
                        }
                    }
                }
            }
            int need = mouths;
            Goose victim = null;
            for (Goose g : geese) {
                if (g.fate == 0) {
                    need++;
                    if (victim == null && !g.named) {
                        victim = g;
                    }
                }
            }
            if (grain >= need) {
                grain -= need;
            } else if (victim == null) {
                grain = 0;
            } else {
                grain = victim.weight;
                victim.fate = 5;
                victim.then = day;
            }
        }
        return day;
    }

    int feed(int... words) {
        if (tape.size() > 280) {
            return -1;
        }
        for (int w : words) {
            for (int i = 3; i >= 0; i--) {
                tape.add(w >>> 8 * i & 255);
            }
        }
        return tape.size();
    }

    int end(int n) {
        if (n < 0 || n > tape.size()) {
            return -1;
        }
        tape = new ArrayList<>(tape.subList(0, n));
        return n;
    }

    int text() {
        if (texts.size() == 4) {
            return -1;
        }
        List<Integer> bytes = tape;
        tape = new ArrayList<>();
        try {
            texts.add(script(bytes));
            fault = 0;
            place = -1;
            return texts.size() - 1;
        } catch (Fault f) {
            fault = f.what;
            place = f.place;
            return -1;
        }
    }

    int fault(int what) {
        return what == 0 ? fault : what == 1 ? place : -1;
    }

    boolean by(int text) {
        if (!in(text, -1, texts.size() - 1)) {
            return false;
        }
        ruling = text;
        return true;
    }

    int played(int text) {
        if (!in(text, 0, texts.size() - 1)) {
            return -2;
        }
        int n = 0;
        for (List<String> c : texts.get(text).clauses) {
            int done = 0;
            if (c.get(0).equals("fill")) {
                done = fill(Integer.parseInt(c.get(1)), Integer.parseInt(c.get(3)), Integer.parseInt(c.get(5)));
            } else if (c.get(0).equals("send")) {
                done = send(Integer.parseInt(c.get(1)), Integer.parseInt(c.get(3)));
            } else if (c.get(0).equals("fatten")) {
                done = fatten(Integer.parseInt(c.get(1)));
            } else if (c.get(0).equals("pass")) {
                done = pass(Integer.parseInt(c.get(1)));
            }
            if (done == -1) {
                return n;
            }
            n++;
        }
        return -1;
    }

    int undo() {
        if (steps.isEmpty()) {
            return -1;
        }
        Step s = steps.removeLast();
        List<Goose> since = geese.subList(s.geese.size(), geese.size());
        List<Goose> all = copies(s.geese);
        all.addAll(since);
        geese = all;
        grain = s.grain;
        day = s.day;
        x = s.x;
        return steps.size();
    }

    int of(int goose, int what) {
        Goose g = at(goose);
        if (g == null) {
            return -2;
        }
        switch (what) {
            case 0: return g.weight;
            case 1: return g.feathers;
            case 2: return g.letter;
            case 3: return g.part;
            case 4: return g.fate;
            case 5: return g.market;
            case 6: return g.there;
            case 7: return g.then;
            case 8: return g.named ? 1 : 0;
            case 9: return isTrue(goose, g) ? 1 : 0;
            default: return -2;
        }
    }

    int ink(int goose, int letter, int part) {
        if (at(goose) == null || !in(letter, 0, 5) || !in(part, 0, 2)) {
            return -1;
        }
        List<String> law = law("ink");
        if (law == null) {
            return 1;
        }
        Goose g = at(goose).copy();
        g.letter = letter;
        g.part = part;
        return (int) Math.max(0, Math.min(99, new Sum(law, names(goose, g, day, -1)).sum()));
    }

    private boolean knows(int letter, int onDay, boolean enemy) {
        boolean[] has = new boolean[3];
        for (int n = 0; n < geese.size(); n++) {
            Goose g = geese.get(n);
            if (g.letter == letter && g.then <= onDay && (enemy ? g.fate == 4 : g.fate == 2 && isTrue(n, g))) {
                has[g.part] = true;
            }
        }
        return has[0] || has[1] && has[2];
    }

    int known(int letter, int onDay) {
        if (!in(letter, 0, 5) || !in(onDay, 0, 999)) {
            return -1;
        }
        return (knows(letter, onDay, false) ? 1 : 0) + (knows(letter, onDay, true) ? 2 : 0);
    }

    int led(int letter, boolean enemy) {
        boolean[] has = new boolean[3];
        for (int d = 0; d <= 999; d++) {
            for (int n = 0; n < geese.size(); n++) {
                Goose g = geese.get(n);
                if (g.then != d || g.letter != letter || letter < 0) {
                    continue;
                }
                if (enemy ? g.fate == 4 : g.fate == 2 && isTrue(n, g)) {
                    has[g.part] = true;
                    if (has[0] || has[1] && has[2]) {
                        return n;
                    }
                }
            }
        }
        return -1;
    }

    int answer(int letter) {
        int n = led(letter, false);
        return n < 0 ? -1 : geese.get(n).then + markets.get(geese.get(n).market)[0];
    }

    int plucks(int goose) {
        Goose g = at(goose);
        if (g == null) {
            return -1;
        }
        Goose h = g.copy();
        for (; h.feathers >= 0; h.feathers--) {
            if (isTrue(goose, h)) {
                return g.feathers - h.feathers;
            }
        }
        return -1;
    }

    long odds(int letter, int who, boolean low) {
        if (!in(letter, 0, 5) || !in(who, 0, 2)) {
            return -1;
        }
        List<Integer> going = new ArrayList<>();
        for (int n = 0; n < geese.size(); n++) {
            if (geese.get(n).fate == 1 && geese.get(n).letter == letter) {
                going.add(n);
            }
        }
        if (going.size() > 8) {
            return -1;
        }
        List<Goose> saved = geese;
        int[] butchers = new int[going.size()];
        int[] readers = new int[going.size()];
        for (int i = 0; i < butchers.length; i++) {
            Goose g = geese.get(going.get(i));
            butchers[i] = butcher(going.get(i), g, g.market, g.there);
            readers[i] = reader(going.get(i), g, g.market, g.there);
        }
        int cases = (int) Math.pow(3, going.size());
        BigInteger sum = BigInteger.ZERO;
        for (int c = 0; c < cases; c++) {
            geese = copies(saved);
            BigInteger weight = BigInteger.ONE;
            int rest = c;
            for (int i = 0; i < butchers.length; i++) {
                int b = butchers[i];
                int[] weights = {(10 - b) * 10, b * (10 - readers[i]), b * readers[i]};
                weight = weight.multiply(BigInteger.valueOf(weights[rest % 3]));
                geese.get(going.get(i)).fate = 2 + rest % 3;
                geese.get(going.get(i)).then = day;
                rest /= 3;
            }
            boolean friends = weight.signum() != 0 && knows(letter, 999, false);
            boolean enemy = weight.signum() != 0 && knows(letter, 999, true);
            if (who == 0 && friends || who == 1 && enemy || who == 2 && friends && !enemy) {
                sum = sum.add(weight);
            }
        }
        geese = saved;
        BigInteger all = BigInteger.valueOf(100).pow(going.size());
        BigInteger gcd = all.gcd(sum);
        return (low ? all : sum).divide(gcd).longValueExact();
    }

    /** The best plan so far: its geese and choices as a row of numbers, and how likely THE ENEMY knows. */
    private int[] best;
    private long bestEnemy;

    int plan(int letter, int p, int goose) {
        if (!in(letter, 0, 5) || !in(p, 1, 100) || goose != -1 && at(goose) == null) {
            return -2;
        }
        List<Integer> ready = new ArrayList<>();
        for (int n = 0; n < geese.size(); n++) {
            if (geese.get(n).fate == 0 && !geese.get(n).named && geese.get(n).letter < 0) {
                ready.add(n);
            }
        }
        int[][][] chances = new int[10][40][];
        for (int n : ready) {
            for (int choice = 0; choice < markets.size() * 10; choice++) {
                if (choice % 10 < 3) {
                    Goose g = geese.get(n).copy();
                    g.letter = letter;
                    g.part = choice % 10;
                    int there = day + markets.get(choice / 10)[0];
                    int b = butcher(n, g, choice / 10, there);
                    int r = reader(n, g, choice / 10, there);
                    chances[n][choice] = new int[] {(10 - b) * 10, b * (10 - r), b * r, isTrue(n, g) ? 1 : 0};
                }
            }
        }
        best = null;
        for (int size = 1; size <= 3 && best == null; size++) {
            sets(ready, 0, new int[size], 0, chances, p);
        }
        if (best == null) {
            return -2;
        }
        int size = best.length / 2;
        if (goose == -1) {
            return size;
        }
        for (int i = 0; i < size; i++) {
            if (best[i] == goose) {
                return best[size + i];
            }
        }
        return -1;
    }

    private void sets(List<Integer> ready, int from, int[] set, int at, int[][][] chances, int p) {
        if (at == set.length) {
            choices(set, new int[set.length], 0, chances, p);
            return;
        }
        for (int i = from; i < ready.size(); i++) {
            set[at] = ready.get(i);
            sets(ready, i + 1, set, at + 1, chances, p);
        }
    }

    private void choices(int[] set, int[] choice, int at, int[][][] chances, int p) {
        if (at < set.length) {
            for (int c = 0; c < 40; c++) {
                if (chances[set[at]][c] != null) {
                    choice[at] = c;
                    choices(set, choice, at + 1, chances, p);
                }
            }
            return;
        }
        long friends = 0;
        long enemy = 0;
        int n = set.length;
        int cases = n == 1 ? 3 : n == 2 ? 9 : 27;
        for (int c = 0; c < cases; c++) {
            long weight = 1;
            int told = 0;
            int read = 0;
            int rest = c;
            for (int i = 0; i < n; i++) {
                int[] w = chances[set[i]][choice[i]];
                int fate = rest % 3;
                rest /= 3;
                weight *= w[fate];
                int mask = new int[] {3, 1, 2}[choice[i] % 10];
                told |= fate == 0 && w[3] == 1 ? mask : 0;
                read |= fate == 2 ? mask : 0;
            }
            friends += told == 3 ? weight : 0;
            enemy += read == 3 ? weight : 0;
        }
        if (friends * 100 < p * (n == 1 ? 100 : n == 2 ? 10000 : 1000000)) {
            return;
        }
        int[] row = Arrays.copyOf(set, 2 * n);
        System.arraycopy(choice, 0, row, n, n);
        if (best == null || enemy < bestEnemy || enemy == bestEnemy && Arrays.compare(row, best) < 0) {
            best = row;
            bestEnemy = enemy;
        }
    }

    int holds() {
        int need = mouths;
        for (Goose g : geese) {
            need += g.fate == 0 ? 1 : 0;
        }
        int days = 0;
        for (int left = grain; days < 999 && left >= need; left -= need) {
            days++;
        }
        return days;
    }

    int image() {
        image = new Model(this);
        return day;
    }

    int back() {
        take(image);
        return day;
    }

    int about(int what) {
        int[] few = {markets.size(), geese.size(), grain, mouths, day, x, texts.size(), ruling, steps.size(), tape.size()};
        if (in(what, 0, 9)) {
            return few[what];
        }
        if (in(what, 10, 9 + markets.size())) {
            int[] m = markets.get(what - 10);
            return m[0] * 100 + m[1] * 10 + m[2];
        }
        if (!in(what, 20, 25)) {
            return -2;
        }
        int count = 0;
        for (Goose g : geese) {
            count += g.fate == what - 20 ? 1 : 0;
        }
        return count;
    }

    private List<String> law(String word) {
        return ruling < 0 ? null : texts.get(ruling).laws.get(word);
    }

    private Map<String, Integer> names(int n, Goose g, int onDay, int market) {
        Map<String, Integer> names = new HashMap<>();
        names.put("goose", n);
        names.put("weight", g.weight);
        names.put("feathers", g.feathers);
        names.put("letter", g.letter);
        names.put("part", g.part);
        names.put("day", onDay);
        if (market >= 0) {
            names.put("market", market);
            names.put("greed", markets.get(market)[1]);
            names.put("eyes", markets.get(market)[2]);
        }
        return names;
    }

    private int butcher(int n, Goose g, int market, int onDay) {
        List<String> law = law("butcher");
        long v = law == null ? markets.get(market)[1] : new Sum(law, names(n, g, onDay, market)).sum();
        return (int) Math.max(0, Math.min(10, v));
    }

    private int reader(int n, Goose g, int market, int onDay) {
        List<String> law = law("reader");
        long v = law == null ? markets.get(market)[2] : new Sum(law, names(n, g, onDay, market)).sum();
        return (int) Math.max(0, Math.min(10, v));
    }

    private boolean isTrue(int n, Goose g) {
        List<String> law = law("code");
        return law == null || new Sum(law, names(n, g, day, -1)).either();
    }

    /** Works a law out from its tokens, which are known to be sound. */
    private static final class Sum {
        private final List<String> tokens;
        private final Map<String, Integer> names;
        private int at = 0;

        Sum(List<String> tokens, Map<String, Integer> names) {
            this.tokens = tokens;
            this.names = names;
        }

        private boolean next(String sign) {
            if (at < tokens.size() && tokens.get(at).equals(sign)) {
                at++;
                return true;
            }
            return false;
        }

        boolean either() {
            boolean v = both();
            while (next("or")) {
                boolean w = both();
                v = v || w;
            }
            return v;
        }

        private boolean both() {
            boolean v = ask();
            while (next("and")) {
                boolean w = ask();
                v = v && w;
            }
            return v;
        }

        private boolean ask() {
            if (next("not")) {
                return !ask();
            }
            long left = sum();
            String sign = tokens.get(at++);
            long right = sum();
            int order = Long.compare(left, right);
            switch (sign) {
                case "<": return order < 0;
                case "<=": return order <= 0;
                case ">": return order > 0;
                case ">=": return order >= 0;
                case "=": return order == 0;
                default: return order != 0;
            }
        }

        private static long cut(long v) {
            return v > 1000000 ? 1000000 : v < -1000000 ? -1000000 : v;
        }

        long sum() {
            long v = product();
            while (true) {
                if (next("+")) {
                    v = cut(v + product());
                } else if (next("-")) {
                    v = cut(v - product());
                } else {
                    return v;
                }
            }
        }

        private long product() {
            long v = one();
            while (true) {
                if (next("*")) {
                    v = cut(v * one());
                } else if (next("/")) {
                    long w = one();
                    v = w == 0 ? 0 : v / w;
                } else {
                    return v;
                }
            }
        }

        private long one() {
            if (next("-")) {
                return -one();
            }
            if (next("(")) {
                long v = sum();
                at++;
                return v;
            }
            String sign = tokens.get(at++);
            return names.containsKey(sign) ? names.get(sign) : Long.parseLong(sign);
        }
    }

    private static List<Token> tokens(List<Integer> bytes) {
        List<Token> all = new ArrayList<>();
        StringBuilder whole = new StringBuilder();
        for (int b : bytes) {
            whole.append((char) b);
        }
        java.util.regex.Matcher m = java.util.regex.Pattern
                .compile("[a-zA-Z]+|[0-9]+|<=|>=|[^ \n]", java.util.regex.Pattern.DOTALL).matcher(whole);
        while (m.find()) {
            all.add(new Token(m.group(), m.start()));
        }
        all.add(new Token(END, bytes.size()));
        return all;
    }

    private static final List<String> STARTS = Arrays.asList("butcher", "reader", "ink", "code", "fill", "send", "fatten", "pass");
    private static final List<String> NAMES = Arrays.asList("goose", "weight", "feathers", "letter", "part", "day");
    private static final List<String> MARKET_NAMES = Arrays.asList("market", "greed", "eyes");
    private static final List<String> ASKS = Arrays.asList("<", "<=", ">", ">=", "=", "#");

    /** A stack of what must come: capitals are rules, "9:0:5" a number with its bounds, "shut" the end of what was open. */
    private static Script script(List<Integer> bytes) throws Fault {
        Script script = new Script();
        List<String> clause = new ArrayList<>();
        Deque<String> due = new ArrayDeque<>();
        int open = 0;
        for (Token t : tokens(bytes)) {
            boolean gone = false;
            while (!gone) {
                while (!due.isEmpty() && due.peek().equals("shut")) {
                    due.pop();
                    open--;
                }
                if (due.isEmpty()) {
                    if (!clause.isEmpty()) {
                        close(script, clause);
                        clause = new ArrayList<>();
                    }
                    if (t.sign == END) {
                        return script;
                    }
                    start(script, t, due);
                    clause.add(t.sign);
                    break;
                }
                String top = due.pop();
                boolean number = Character.isDigit(t.sign.charAt(0)) && t.sign != END;
                switch (top) {
                    case "EITHER": push(due, "BOTH", "EITHERS"); break;
                    case "BOTH": push(due, "ASK", "BOTHS"); break;
                    case "SUM": push(due, "PRODUCT", "SUMS"); break;
                    case "PRODUCT": push(due, "ONE", "PRODUCTS"); break;
                    case "EITHERS":
                        if (t.sign.equals("or")) {
                            push(due, "BOTH", "EITHERS");
                            gone = true;
                        }
                        break;
                    case "BOTHS":
                        if (t.sign.equals("and")) {
                            push(due, "ASK", "BOTHS");
                            gone = true;
                        }
                        break;
                    case "SUMS":
                        if (t.sign.equals("+") || t.sign.equals("-")) {
                            push(due, "PRODUCT", "SUMS");
                            gone = true;
                        }
                        break;
                    case "PRODUCTS":
                        if (t.sign.equals("*") || t.sign.equals("/")) {
                            push(due, "ONE", "PRODUCTS");
                            gone = true;
                        }
                        break;
                    case "ASK":
                        if (t.sign.equals("not")) {
                            open = deeper(open, t);
                            push(due, "ASK", "shut");
                            gone = true;
                        } else {
                            push(due, "SUM", "COMPARE", "SUM");
                        }
                        break;
                    case "COMPARE":
                        if (!ASKS.contains(t.sign)) {
                            throw new Fault(1, t.place);
                        }
                        gone = true;
                        break;
                    case "ONE":
                        gone = true;
                        if (t.sign.equals("(")) {
                            open = deeper(open, t);
                            push(due, "SUM", ")", "shut");
                        } else if (t.sign.equals("-")) {
                            open = deeper(open, t);
                            push(due, "ONE", "shut");
                        } else if (number) {
                            inBounds(t, 0, 9999);
                        } else if (MARKET_NAMES.contains(t.sign)) {
                            if (clause.get(0).equals("ink") || clause.get(0).equals("code")) {
                                throw new Fault(5, t.place);
                            }
                        } else if (!NAMES.contains(t.sign)) {
                            throw new Fault(1, t.place);
                        }
                        break;
                    default:
                        if (top.startsWith("9:")) {
                            if (!number) {
                                throw new Fault(1, t.place);
                            }
                            String[] bounds = top.split(":");
                            inBounds(t, Integer.parseInt(bounds[1]), Integer.parseInt(bounds[2]));
                        } else if (t.sign == END || !top.equals(t.sign)) {
                            throw new Fault(1, t.place);
                        }
                        gone = true;
                        break;
                }
                if (gone) {
                    clause.add(t.sign);
                }
            }
        }
        throw new IllegalStateException("the end was not come to");
    }

    private static void push(Deque<String> due, String... all) {
        for (int i = all.length - 1; i >= 0; i--) {
            due.push(all[i]);
        }
    }

    private static int deeper(int open, Token t) throws Fault {
        if (open == 8) {
            throw new Fault(3, t.place);
        }
        return open + 1;
    }

    private static void inBounds(Token t, int least, int most) throws Fault {
        BigInteger v = new BigInteger(t.sign);
        if (v.compareTo(BigInteger.valueOf(least)) < 0 || v.compareTo(BigInteger.valueOf(most)) > 0) {
            throw new Fault(2, t.place);
        }
    }

    private static void start(Script script, Token t, Deque<String> due) throws Fault {
        if (!STARTS.contains(t.sign)) {
            throw new Fault(1, t.place);
        }
        if (script.laws.containsKey(t.sign)) {
            throw new Fault(4, t.place);
        }
        if (script.clauses.size() == 24) {
            throw new Fault(6, t.place);
        }
        switch (t.sign) {
            case "code": push(due, "EITHER", ";"); break;
            case "fill": push(due, "9:0:9", "with", "9:0:5", "part", "9:0:2", ";"); break;
            case "send": push(due, "9:0:9", "to", "9:0:3", ";"); break;
            case "fatten": push(due, "9:0:9", ";"); break;
            case "pass": push(due, "9:1:99", ";"); break;
            default: push(due, "SUM", ";"); break;
        }
    }

    private static void close(Script script, List<String> clause) {
        script.clauses.add(clause);
        if (STARTS.indexOf(clause.get(0)) < 4) {
            script.laws.put(clause.get(0), clause.subList(1, clause.size() - 1));
        }
    }

    private static final String END = new String("the end");
}
