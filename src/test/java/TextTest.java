/** Promises 12 to 17, 20 and 24: the tape, texts and their faults, laws and what is played by them. */
public final class TextTest {
    public static void main(String[] args) {
        tape();
        fourTexts();
        latestFault();
        faultsLeaveNothing();
        faults();
        soundTexts();
        fullTape();
        depth();
        clauses();
        by();
        sums();
        names();
        limits();
        asks();
        plucks();
        played();
        playedPass();
        lawsOfMarkets();
        Check.finish();
    }

    private static void due(String what, long got, long want) {
        Check.due(what, got, want);
    }

    private static void due(String what, boolean got, boolean want) {
        Check.due(what, got, want);
    }

    private static String times(String bit, int n) {
        StringBuilder all = new StringBuilder();
        for (int i = 0; i < n; i++) {
            all.append(bit);
        }
        return all.toString();
    }

    private static void tape() {
        GooseLetters x = new GooseLetters();
        due("end of none", x.end(1), -1);
        due("end 0", x.end(0), 0);
        for (int i = 1; i <= 15; i++) {
            due("feed", x.feed(538976288, 538976288, 538976288, 538976288, 538976288), 20 * i);
        }
        due("feed beyond", x.feed(1, 2, 3, 4, 5), -1);
        due("bytes", x.about(9), 300);
        due("end -1", x.end(-1), -1);
        due("end 301", x.end(301), -1);
        due("end 281", x.end(281), 281);
        due("feed beyond", x.feed(1, 2, 3, 4, 5), -1);
        due("end 280", x.end(280), 280);
        due("feed", x.feed(0, 0, 0, 0, 0), 300);
        due("end 300", x.end(300), 300);
        due("a byte that is none", x.text(), -1);
        due("fault", x.fault(0), 1);
        due("place", x.fault(1), 280);
        due("the tape is empty", x.about(9), 0);
    }

    private static void fourTexts() {
        GooseLetters x = new GooseLetters();
        due("ahead of any", x.fault(0), -1);
        due("ahead of any", x.fault(1), -1);
        due("an empty text", x.text(), 0);
        due("no fault", x.fault(0), 0);
        due("no place", x.fault(1), -1);
        due("other", x.fault(2), -1);
        due("other", x.fault(-1), -1);
        due("text 1", Check.text(x, "ink 1;"), 1);
        due("text with a fault", Check.text(x, "ink"), -1);
        due("text 2", Check.text(x, " \n "), 2);
        due("text 3", Check.text(x, "pass 1;"), 3);
        due("texts", x.about(6), 4);
        due("a fifth", Check.text(x, "code"), -1);
        due("the tape stays", x.about(9), 4);
        due("it was not read", x.fault(0), 0);
        due("played by an empty one", x.played(0), -1);
    }

    /** What was read of a text with a fault must leave no trace in the next. */
    private static void faultsLeaveNothing() {
        GooseLetters x = new GooseLetters();
        x.goose(1, 1);
        x.market(1, 5, 5);
        for (int i = 0; i < 10; i++) {
            due("spoilt", Check.text(x, "butcher 1; reader 2; code 1=2; pass 5; ink 1" + times("+1", 100)), -1);
        }
        due("text", Check.text(x, "ink 7;"), 0);
        x.by(0);
        due("ink", x.ink(0, 0, 0), 7);
        due("no code", x.of(0, 9), 1);
        due("nothing is played", x.played(0), -1);
        due("day", x.about(4), 0);
        x.store(50, 0);
        x.fill(0, 0, 0);
        x.send(0, 0);
        due("no butcher", x.odds(0, 0, true), 2);
        due("no reader", x.odds(0, 1, true), 4);
    }

    private static void latestFault() {
        GooseLetters x = new GooseLetters();
        Check.text(x, "ink 1; foo");
        due("fault", x.fault(0), 1);
        due("place", x.fault(1), 7);
        Check.text(x, "ink 1;");
        due("fault", x.fault(0), 0);
        due("place", x.fault(1), -1);
    }

    private static void fault(String bytes, int what, int place) {
        GooseLetters x = new GooseLetters();
        due("text " + bytes, Check.text(x, bytes), -1);
        due("fault of " + bytes, x.fault(0), what);
        due("place in " + bytes, x.fault(1), place);
        due("no text of " + bytes, x.about(6), 0);
    }

    private static void faults() {
        fault("Butcher 1;", 1, 0);
        fault("inks 1;", 1, 0);
        fault("inka 1;", 1, 0);
        fault("inkz 1;", 1, 0);
        fault("inkA 1;", 1, 0);
        fault("inkZ 1;", 1, 0);
        fault("ink@1;", 1, 3);
        fault("ink[1;", 1, 3);
        fault("ink`1;", 1, 3);
        fault("ink{1;", 1, 3);
        fault("ink 1:;", 1, 5);
        fault("ink 1" + (char) 11 + ";", 1, 5);
        fault("ink 1" + (char) 160 + ";", 1, 5);
        fault("ink 1", 1, 5);
        fault("ink 1  \n ", 1, 9);
        fault("ink 1;;", 1, 6);
        fault("ink ;", 1, 4);
        fault("ink 1\t;", 1, 5);
        fault("ink 1 + ;", 1, 8);
        fault("ink 1 2;", 1, 6);
        fault("ink + 1;", 1, 4);
        fault("ink (1;", 1, 6);
        fault("ink 1);", 1, 5);
        fault("ink 1 < 2;", 1, 6);
        fault("ink not 1;", 1, 4);
        fault("ink fill;", 1, 4);
        fault("ink 10000;", 2, 4);
        fault("ink 99999999999999999999;", 2, 4);
        fault("ink 1 10000;", 1, 6);
        fault("ink eyes;", 5, 4);
        fault("ink greed;", 5, 4);
        fault("ink 1 market;", 1, 6);
        fault("code market < 1;", 5, 5);
        fault("code 1;", 1, 6);
        fault("code 1 < 2 < 3;", 1, 11);
        fault("code 1 < = 2;", 1, 9);
        fault("code 1 => 2;", 1, 8);
        fault("code (1 < 2);", 1, 8);
        fault("code 1 < 2 or;", 1, 13);
        fault("code 1 < 2 and or;", 1, 15);
        fault("code or 1 < 2;", 1, 5);
        fault("code 1 < not 2;", 1, 9);
        fault("code 1 ! 2;", 1, 7);
        fault("code not;", 1, 8);
        fault("butcher 1; ink 2; butcher", 4, 18);
        fault("reader 1; reader 2;", 4, 10);
        fault("code 1<2;code 1<2;", 4, 9);
        fault("fill 10 with 0 part 0;", 2, 5);
        fault("fill 0 with 6 part 0;", 2, 12);
        fault("fill 0 with 0 part 3;", 2, 19);
        fault("fill 0 part 0;", 1, 7);
        fault("fill goose with 0 part 0;", 1, 5);
        fault("fill -1 with 0 part 0;", 1, 5);
        fault("fill 0 with 0 to 0;", 1, 14);
        fault("fill 0 with 0 part 0 0;", 1, 21);
        fault("send 10 to 0;", 2, 5);
        fault("send 0 to 4;", 2, 10);
        fault("send 0 with 0;", 1, 7);
        fault("fatten 10;", 2, 7);
        fault("fatten ;", 1, 7);
        fault("fatten 1 2;", 1, 9);
        fault("pass 0;", 2, 5);
        fault("pass 100;", 2, 5);
        fault("pass 99999;", 2, 5);
        fault("pluck 0;", 1, 0);
        fault("name 0;", 1, 0);
        fault("(", 1, 0);
        fault("5", 1, 0);
        fault("ink " + (char) 233 + ";", 1, 4);
        fault("ink 1" + (char) 0 + ";", 1, 5);
    }

    private static void soundTexts() {
        String[] sound = {"ink1;", "ink\n1\n;", "pass 001;", "ink 9999;", "fill 9 with 5 part 2;", "send 9 to 3;", "fatten 9;",
            "pass 99;", "pass 1;", "ink goose+weight+feathers+letter+part+day;", "butcher market+greed+eyes;",
            "reader market*greed/eyes;", "code 1<2 or 1<=2 and 1>2 or not 1>=2 and 1=2 or 1#2;", "ink - - 1;", "ink 1--1;",
            "code not not part#1;", "fill0with0part0;send0to0;"};
        for (String bytes : sound) {
            GooseLetters x = new GooseLetters();
            due("text " + bytes, Check.text(x, bytes), 0);
            due("fault of " + bytes, x.fault(0), 0);
        }
    }

    private static void fullTape() {
        String full = "ink 150" + times("-1", 146) + ";";
        due("300 bytes", full.length(), 300);
        GooseLetters x = new GooseLetters();
        x.goose(1, 1);
        due("text of 300 bytes", Check.text(x, full), 0);
        x.by(0);
        due("its ink", x.ink(0, 0, 0), 4);
        fault("ink 150" + times("-1", 146) + " ", 1, 300);
        fault("ink 1500" + times("-1", 146), 1, 300);
        fault("ink 150" + times("-1", 146) + "!", 1, 299);
        fault(times(";", 300), 1, 0);
        fault(times("a", 300), 1, 0);
        fault("ink" + times("9", 297), 2, 3);
        fault("code weight" + times("<=1", 96) + ";", 1, 14);
    }

    private static void depth() {
        GooseLetters x = new GooseLetters();
        due("8 brackets", Check.text(x, "ink " + times("(", 8) + "7" + times(")", 8) + ";"), 0);
        due("8 and 8 again", Check.text(x, "ink " + times("-", 8) + "1+" + times("(", 8) + "7" + times(")", 8) + ";"), 1);
        due("8 mixed", Check.text(x, "code not not not 1 < -(-(-5-1)) and not 1 # -((3));"), 2);
        fault("ink " + times("(", 9) + "7" + times(")", 9) + ";", 3, 12);
        fault("ink " + times("-", 9) + "7;", 3, 12);
        fault("ink (-(-(-(-(-7)))));", 3, 12);
        fault("code not not not 1 < -(-(-(5)));", 3, 26);
        fault("code " + times("not ", 8) + "(1)<2;", 3, 37);
        fault("code " + times("not ", 8) + "1<-2;", 3, 39);
        fault("code " + times("not ", 8) + "not", 3, 37);
        x.by(0);
        x.goose(1, 1);
        due("deep", x.ink(0, 0, 0), 7);
    }

    private static void clauses() {
        GooseLetters x = new GooseLetters();
        due("24 clauses", Check.text(x, times("pass 1;", 24)), 0);
        fault(times("pass 1;", 24) + "pass 1;", 6, 168);
        fault(times("pass 1;", 24) + "foo", 1, 168);
        fault("ink 1;" + times("pass 1;", 23) + "ink 1;", 4, 167);
        fault(times("pass 1;", 24) + "ink 1;", 6, 168);
    }

    private static void by() {
        GooseLetters x = new GooseLetters();
        due("by none", x.by(-1), true);
        due("by text 0", x.by(0), false);
        due("by -2", x.by(-2), false);
        x.goose(1, 1);
        Check.text(x, "ink 5;");
        due("not ruling yet", x.ink(0, 0, 0), 1);
        due("by text 0", x.by(0), true);
        due("the text", x.about(7), 0);
        due("ruling", x.ink(0, 0, 0), 5);
        due("by 4", x.by(4), false);
        due("by none", x.by(-1), true);
        due("the text", x.about(7), -1);
        due("not ruling", x.ink(0, 0, 0), 1);
    }

    /** The value of a sum, as ink tells it of goose 0, filled with letter 3, part 2, on day 4. */
    private static int value(String sum) {
        GooseLetters x = new GooseLetters();
        x.store(100, 0);
        x.goose(7, 50);
        x.pass(4);
        due("text of " + sum, Check.text(x, "ink " + sum + ";"), 0);
        x.by(0);
        return x.ink(0, 3, 2);
    }

    private static void sums() {
        due("from the left", value("20-5-4"), 11);
        due("from the left", value("80/4/2"), 10);
        due("products first", value("2+3*4"), 14);
        due("brackets", value("(2+3)*4"), 20);
        due("cut towards 0", value("10+-7/2"), 7);
        due("cut towards 0", value("10+7/-2"), 7);
        due("by 0", value("9+5/0"), 9);
        due("above 1000000", value("9999*9999/9999/50"), 2);
        due("above 1000000", value("9999*9999/9999/2"), 50);
        due("below", value("0-(-9999*9999/9999/2)"), 50);
        due("at each step", value("9999*9999+1-9999*100-50"), 50);
        due("at each step below", value("-9999*9999-1+9999*100+150"), 50);
        due("at each step", value("9999*9999*9999*0+4"), 4);
        due("two minus", value("- -5"), 5);
        due("minus of one only", value("-5+9"), 4);
        due("minus and product", value("-5*-3"), 15);
    }

    private static void names() {
        due("goose", value("goose+5"), 5);
        due("weight", value("weight"), 7);
        due("feathers", value("feathers"), 50);
        due("letter", value("letter"), 3);
        due("part", value("part"), 2);
        due("day", value("day"), 4);
    }

    private static void limits() {
        due("99 at most", value("100"), 99);
        due("0 at least", value("-1"), 0);
        GooseLetters x = new GooseLetters();
        x.goose(1, 1);
        x.store(4, 0);
        Check.text(x, "ink letter+4;");
        x.by(0);
        due("grain isn't there", x.fill(0, 1, 0), -1);
        due("no step", x.about(8), 0);
        due("grain is there", x.fill(0, 0, 0), 0);
    }

    /** Whether goose 0 of weight 7 with 50 feathers and no quill is true on day 0. */
    private static boolean isTrue(String code) {
        GooseLetters x = new GooseLetters();
        x.goose(7, 50);
        due("text of " + code, Check.text(x, "code " + code + ";"), 0);
        x.by(0);
        return x.of(0, 9) == 1;
    }

    private static void asks() {
        due("<", isTrue("1 < 1"), false);
        due("<=", isTrue("1 <= 1"), true);
        due(">", isTrue("1 > 1"), false);
        due(">=", isTrue("1 >= 1"), true);
        due("=", isTrue("1 = 1"), true);
        due("#", isTrue("1 # 1"), false);
        due("not", isTrue("not 1 # 1"), true);
        due("not not", isTrue("not not 1 # 1"), false);
        due("and before or", isTrue("1=1 or 1=2 and 1=2"), true);
        due("not before and", isTrue("not 1=2 and 1=2"), false);
        due("and", isTrue("1=1 and 2=2 and 3=4"), false);
        due("or", isTrue("1=2 or 2=1 or 3=3"), true);
        String deep = "1=2 or 1=1 and 9=" + times("1+1*(", 8) + "1" + times(")", 8);
        due("much that waits", isTrue(deep), true);
        due("much that waits", isTrue(deep + "+1"), false);
        due("no quill", isTrue("letter = -1 and part = 0-1"), true);
        due("names", isTrue("goose = 0 and weight = 7 and feathers = 50 and day = 0"), true);
    }

    private static void plucks() {
        GooseLetters x = new GooseLetters();
        x.goose(5, 17);
        x.goose(5, 99);
        due("without a code", x.plucks(0), 0);
        due("other", x.plucks(2), -1);
        due("other", x.plucks(-1), -1);
        Check.text(x, "code feathers / 10 * 10 = feathers and feathers # 10;");
        x.by(0);
        due("17 down to 0", x.plucks(0), 17);
        due("99 down to 90", x.plucks(1), 9);
        Check.text(x, "code feathers > 99;");
        x.by(1);
        due("none", x.plucks(1), -1);
        Check.text(x, "code feathers = 99;");
        x.by(2);
        due("none below", x.plucks(1), 0);
        due("feathers stay", x.of(1, 1), 99);
    }

    private static void played() {
        GooseLetters x = new GooseLetters();
        x.market(2, 0, 0);
        x.goose(5, 5);
        x.goose(6, 6);
        x.store(50, 0);
        Check.text(x, "ink 3; fill 0 with 4 part 1; fatten 0; send 0 to 0; pass 2; code 1=1; send 0 to 0; fatten 1;");
        Check.text(x, "fatten 1; ink 9; pass 1;");
        due("other", x.played(2), -2);
        due("other", x.played(-1), -2);
        due("other", x.played(4), -2);
        due("played", x.played(0), 6);
        due("its own ink does not rule", x.about(2), 46);
        due("what was done stays", x.of(0, 4), 2);
        due("weight", x.of(0, 0), 6);
        due("steps", x.about(8), 4);
        due("day", x.about(4), 2);
        due("what is behind it isn't done", x.of(1, 0), 6);
        due("all is done", x.played(1), -1);
        due("fattened", x.of(1, 0), 7);
        due("steps", x.about(8), 6);
        due("undo", x.undo(), 5);
        due("day", x.about(4), 2);
        Check.text(x, "send 5 to 0;");
        due("no such goose", x.played(2), 0);
        Check.text(x, "pass 3; send 1 to 3;");
        due("no such market", x.played(3), 1);
        due("day", x.about(4), 5);
    }

    private static void playedPass() {
        GooseLetters x = new GooseLetters();
        Check.text(x, times("pass 99;", 11));
        due("beyond 999", x.played(0), 10);
        due("day", x.about(4), 990);
        due("ten steps", x.about(8), 10);
        Check.text(x, "fatten 0;");
        due("no goose", x.played(1), 0);
    }

    /** Draws are 9, 4, 2, 6, 7, 1, .. . */
    private static void lawsOfMarkets() {
        GooseLetters x = new GooseLetters();
        x.market(3, 1, 2);
        x.market(3, 0, 9);
        for (int i = 0; i < 4; i++) {
            x.goose(4 + i, 10 * i);
        }
        x.store(100, 0);
        x.pass(1);
        Check.text(x, "butcher greed*100 + market*(day+1) ; reader eyes+weight-feathers/10-day+letter+1;");
        x.by(0);
        x.fill(0, 0, 0);
        x.fill(1, 1, 0);
        x.send(0, 0);
        x.send(1, 1);
        x.send(2, 0);
        due("there", x.send(3, 1), 4);
        x.pass(3);
        due("9 below 10, 4 below 2+4-0-4+0+1=3", x.of(0, 4), 3);
        due("2 below 5, 6 below 10", x.of(1, 4), 4);
        due("7 below 10", x.of(2, 4), 3);
        due("1 below 5, without a quill", x.of(3, 4), 3);
        due("x", x.about(5), (29551L * 157 + 61) % 30071);
    }
}
