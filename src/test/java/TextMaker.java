/** Texts of the language, some of them spoilt. */
final class TextMaker {
    private static final String[] NAMES = {"goose", "weight", "feathers", "letter", "part", "day"};
    private static final String[] MARKET_NAMES = {"market", "greed", "eyes"};
    private static final String[] ASKS = {"<", "<=", ">", ">=", "=", "#"};
    private static final String[] BITS = {"not ", "(", ")", "-", "+", "*", "/", ";", "<", ">", "=", "<=", ">=", "#", " or ", " and ",
        " 10000 ", "7", " 0 ", "butcher ", "reader ", "ink ", "code ", "fill ", "send ", "fatten ", "pass ", " with ", " part ",
        " to ", "goose ", "market ", "greed ", "eyes ", "Ink ", "!", "\t", "\n", " ", "", "" + (char) 233, "" + (char) 0};

    private final Dice dice;
    private StringBuilder out = new StringBuilder();

    TextMaker(Dice dice) {
        this.dice = dice;
    }

    String text() {
        out = new StringBuilder();
        int clauses = dice.below(7);
        int kind = dice.below(12);
        if (kind == 0) {
            clauses = 20 + dice.below(7);
        }
        int first = dice.below(4);
        for (int i = 0; i < clauses; i++) {
            if (kind == 0 && dice.below(6) > 0) {
                out.append(dice.below(2) == 0 ? "pass 1;" : "fatten 2;");
            } else {
                clause(kind == 1 ? dice.below(8) : i < 3 ? (first + i) % 4 : 4 + dice.below(4));
            }
        }
        if (dice.below(3) == 0) {
            spoil();
        }
        return out.substring(0, Math.min(300, out.length()));
    }

    String lawsByPart() {
        out = new StringBuilder();
        out.append("butcher greed+").append(dice.below(4)).append("-part*").append(dice.below(5)).append("+goose*part/")
                .append(1 + dice.below(9)).append(";");
        out.append("reader eyes-").append(dice.below(4)).append("+part*").append(dice.below(3)).append(";");
        if (dice.below(2) == 0) {
            out.append("code part>0 or feathers>").append(dice.below(100)).append(";");
        }
        return out.toString();
    }

    private void spoil() {
        for (int i = dice.below(2); i >= 0; i--) {
            int at = dice.below(out.length() + 1);
            int till = Math.min(out.length(), at + dice.below(3));
            out.replace(at, till, BITS[dice.below(BITS.length)]);
        }
        if (dice.below(4) == 0) {
            out.setLength(dice.below(out.length() + 1));
        }
    }

    private void clause(int kind) {
        switch (kind) {
            case 0: law("butcher ", true); break;
            case 1: law("reader ", true); break;
            case 2: law("ink ", false); break;
            case 3:
                out.append("code ");
                code();
                break;
            case 4: out.append("fill ").append(dice.below(10)).append(" with ").append(dice.below(6)).append(" part ")
                    .append(dice.below(3)); break;
            case 5: out.append("send ").append(dice.below(10)).append(" to ").append(dice.below(4)); break;
            case 6: out.append("fatten ").append(dice.below(10)); break;
            default: out.append("pass ").append(1 + dice.below(dice.below(5) == 0 ? 99 : 4)); break;
        }
        out.append(dice.below(4) == 0 ? " ;\n" : ";");
    }

    private void law(String word, boolean market) {
        out.append(word);
        if (market && dice.below(2) == 0) {
            out.append(word.equals("reader ") ? "eyes" : "greed");
            out.append(dice.below(2) == 0 ? "+" : "-");
            out.append(MARKET_NAMES[dice.below(3)]).append("/2-").append(NAMES[dice.below(6)]).append("/3");
        } else {
            sum(market, 0);
        }
    }

    private void code() {
        int asks = 1 + dice.below(3);
        for (int i = 0; i < asks; i++) {
            if (i > 0) {
                out.append(dice.below(2) == 0 ? " or " : " and ");
            }
            for (int j = dice.below(4) == 0 ? dice.below(4) : 0; j > 0; j--) {
                out.append("not ");
            }
            if (dice.below(2) == 0) {
                String name = NAMES[dice.below(6)];
                int by = 2 + dice.below(5);
                out.append(name).append("/").append(by).append("*").append(by).append("=").append(name);
            } else {
                sum(false, 0);
                out.append(ASKS[dice.below(6)]);
                sum(false, 0);
            }
        }
    }

    private void sum(boolean market, int depth) {
        one(market, depth);
        for (int i = dice.below(3); i > 0; i--) {
            out.append("+-*/".charAt(dice.below(4)));
            one(market, depth);
        }
    }

    private void one(boolean market, int depth) {
        int kind = dice.below(10);
        if (kind == 0 && depth < 11) {
            out.append("(");
            sum(market, depth + 1);
            out.append(")");
        } else if (kind == 1 && depth < 11) {
            int n = dice.below(10) == 0 ? dice.below(10) : 1;
            for (int i = 0; i < n; i++) {
                out.append("-");
            }
            one(market, depth + 1);
        } else if (kind < 5) {
            out.append(dice.below(4) == 0 ? dice.below(10000) : dice.below(12));
        } else if (market && kind == 5) {
            out.append(MARKET_NAMES[dice.below(3)]);
        } else {
            out.append(NAMES[dice.below(6)]);
        }
    }
}
