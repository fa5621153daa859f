/**
 * The limits of section II and of promises 12 to 17 and 20: the tape, TOKENS, CLAUSES, each FAULT and its place, laws and
 * what is played. Each test's comment is the document's own words.
 */
public final class TextEdgesTest {
    public static void main(String[] args) {
        bytesOfFeed();
        feedTo300();
        feedBehindEnd();
        ends();
        emptyTape();
        textOf300();
        emptiedByReading();
        fourTexts();
        faultOfOthers();
        latestFault();
        byOthers();
        playedOthers();
        blanks();
        signsAsideLettersAndDigits();
        longest();
        oneTokenOfLetters();
        words();
        numbers();
        numbersOfDeeds();
        clausesNeedTheirWords();
        eachOnce();
        twentyFour();
        endOfText();
        firstAsComeTo();
        leastOfOne();
        ninthOpen();
        closedAreNotOpen();
        namesOfClauses();
        millions();
        millionsBelow();
        byZero();
        cutsTowardsZero();
        fromTheLeft();
        comparisons();
        notAndOr();
        largestNames();
        inkLimits();
        butcherLimits();
        readerLimits();
        withoutLaws();
        inkOthers();
        inkNames();
        dayNames();
        playedNumbers();
        playedUpToTheLast();
        playedNumbersOfDeeds();
        Check.finish();
    }

    private static final int BLANKS = 0x20202020;

    private static void due(String what, long got, long want) {
        Check.due(what, got, want);
    }

    private static void due(String what, boolean got, boolean want) {
        Check.due(what, got, want);
    }

    private static void sound(String bytes) {
        GooseLetters x = new GooseLetters();
        due("text " + bytes, Check.text(x, bytes), 0);
        due("fault of " + bytes, x.fault(0), 0);
        due("place in " + bytes, x.fault(1), -1);
        due("texts with " + bytes, x.about(6), 1);
        due("the tape behind " + bytes, x.about(9), 0);
    }

    private static void fault(String bytes, int fault, int place) {
        GooseLetters x = new GooseLetters();
        due("text " + bytes, Check.text(x, bytes), -1);
        due("fault of " + bytes, x.fault(0), fault);
        due("place in " + bytes, x.fault(1), place);
        due("texts with " + bytes, x.about(6), 0);
        due("the tape behind " + bytes, x.about(9), 0);
    }

    /** Twenty bytes come behind the tape, the highest of a first: each byte is told by the place at which it is none. */
    private static void bytesOfFeed() {
        for (int at = 0; at < 20; at++) {
            for (int sign : new int[] {0, 1, 127, 128, 200, 255}) {
                int[] w = {BLANKS, BLANKS, BLANKS, BLANKS, BLANKS};
                int shift = 24 - 8 * (at % 4);
                w[at / 4] = w[at / 4] & ~(255 << shift) | sign << shift;
                GooseLetters x = new GooseLetters();
                x.feed(BLANKS, BLANKS, BLANKS, BLANKS, BLANKS);
                due("feed", x.feed(w[0], w[1], w[2], w[3], w[4]), 40);
                due("text", x.text(), -1);
                due("fault", x.fault(0), 1);
                due("place", x.fault(1), 20 + at);
            }
        }
    }

    /** how many it has. NONE, and none come, if there would be more than 300. */
    private static void feedTo300() {
        for (int start = 279; start <= 283; start++) {
            GooseLetters x = new GooseLetters();
            for (int i = 1; i <= 15; i++) {
                due("feed", x.feed(BLANKS, BLANKS, BLANKS, BLANKS, BLANKS), 20 * i);
            }
            due("full", x.feed(0, 0, 0, 0, 0), -1);
            x.end(start);
            boolean good = start <= 280;
            due("feed behind " + start, x.feed(0, 0, 0, 0, 0), good ? start + 20 : -1);
            due("bytes", x.about(9), good ? start + 20 : start);
            due("text", x.text(), good ? -1 : 0);
            due("fault", x.fault(0), good ? 1 : 0);
            due("place", x.fault(1), good ? start : -1);
        }
    }

    /** Twenty bytes come behind the tape: behind what end has left */
    private static void feedBehindEnd() {
        GooseLetters x = new GooseLetters();
        x.goose(1, 1);
        Check.tape(x, "ink 1234567890123456");
        x.end(5);
        int[] w = Check.words("7;", 0);
        due("feed", x.feed(w[0], w[1], w[2], w[3], w[4]), 25);
        due("text", x.text(), 0);
        x.by(0);
        due("ink 17", x.ink(0, 0, 0), 17);
    }

    /** NONE, and nothing is done, if it has not so many, or n is below 0. */
    private static void ends() {
        GooseLetters x = new GooseLetters();
        due("0 of none", x.end(0), 0);
        due("1 of none", x.end(1), -1);
        x.feed(BLANKS, BLANKS, BLANKS, BLANKS, BLANKS);
        for (int n : new int[] {21, 300, -1, Integer.MIN_VALUE, Integer.MAX_VALUE}) {
            due("end " + n, x.end(n), -1);
            due("bytes", x.about(9), 20);
        }
        for (int n : new int[] {20, 20, 19, 1, 0}) {
            due("end " + n, x.end(n), n);
            due("bytes", x.about(9), n);
            due("one more", x.end(n + 1), -1);
            due("bytes", x.about(9), n);
        }
    }

    /** {CLAUSE}: none is a TEXT too */
    private static void emptyTape() {
        GooseLetters x = new GooseLetters();
        due("text", x.text(), 0);
        due("fault", x.fault(0), 0);
        due("place", x.fault(1), -1);
        due("played", x.played(0), -1);
        due("by", x.by(0), true);
        sound(" ");
        sound("\n");
        sound(" ".repeat(300));
    }

    /** TEXTS 0 .. 3: of up to 300 bytes */
    private static void textOf300() {
        GooseLetters x = new GooseLetters();
        due("text", Check.text(x, " ".repeat(292) + "pass 99;"), 0);
        due("played", x.played(0), -1);
        due("day", x.about(4), 99);
        fault(" ".repeat(293) + "pass 99", 1, 300);
        fault(" ".repeat(299) + "x", 1, 299);
        fault(" ".repeat(299) + "<", 1, 299);
        fault("pass 99" + " ".repeat(293), 1, 300);
        fault("x".repeat(300), 1, 0);
        fault("ink 1" + "+1".repeat(147) + "+", 1, 300);
        sound("ink 1" + "+1".repeat(147) + ";");
        sound("code 1" + "+1".repeat(145) + "<22;");
        sound("code 1=1" + " or 2<3".repeat(41) + ";");
    }

    /** The tape (empty then) is a TEXT: .. NONE: it has a FAULT */
    private static void emptiedByReading() {
        GooseLetters x = new GooseLetters();
        Check.tape(x, "ink 5;");
        due("text", x.text(), 0);
        due("empty", x.about(9), 0);
        due("end", x.end(1), -1);
        Check.tape(x, "ink 5");
        due("a fault", x.text(), -1);
        due("empty", x.about(9), 0);
        due("end", x.end(1), -1);
    }

    /** or (the tape stays) there are 4 */
    private static void fourTexts() {
        GooseLetters x = new GooseLetters();
        x.goose(1, 1);
        for (int i = 0; i < 4; i++) {
            due("a fault has no number", Check.text(x, "ink " + i), -1);
            due("text " + i, Check.text(x, "ink " + (10 + i) + ";"), i);
            due("texts", x.about(6), i + 1);
        }
        Check.tape(x, "ink 9; @");
        due("a fifth", x.text(), -1);
        due("texts", x.about(6), 4);
        due("the tape stays", x.about(9), 8);
        due("not read", x.fault(0), 0);
        due("not read", x.fault(1), -1);
        x.end(6);
        due("a fifth without a fault", x.text(), -1);
        due("the tape stays", x.about(9), 6);
        for (int i = 0; i < 4; i++) {
            x.by(i);
            due("as told", x.ink(0, 0, 0), 10 + i);
        }
        x.back();
        due("then it is read", x.text(), 0);
    }

    /** NONE for others, and ahead of any. */
    private static void faultOfOthers() {
        GooseLetters x = new GooseLetters();
        int[] all = {Integer.MIN_VALUE, -2, -1, 0, 1, 2, 3, Integer.MAX_VALUE};
        for (int what : all) {
            due("ahead of any " + what, x.fault(what), -1);
        }
        Check.tape(x, "ink eyes;");
        due("not read yet", x.fault(0), -1);
        x.text();
        for (int what : all) {
            due("fault " + what, x.fault(what), what == 0 ? 5 : what == 1 ? 4 : -1);
        }
    }

    /** Of the latest text that was read: 0 its FAULT (0 without), 1 its place (NONE without). */
    private static void latestFault() {
        GooseLetters x = new GooseLetters();
        Check.text(x, "pass 0;");
        due("fault", x.fault(0), 2);
        due("place", x.fault(1), 5);
        Check.text(x, "@");
        due("fault", x.fault(0), 1);
        due("place", x.fault(1), 0);
        Check.text(x, "pass 1;");
        due("without", x.fault(0), 0);
        due("without", x.fault(1), -1);
        Check.tape(x, "@");
        due("not read yet", x.fault(0), 0);
    }

    /** THE TEXT (NONE: none): true. False for others. */
    private static void byOthers() {
        GooseLetters x = new GooseLetters();
        for (int told = 0; told <= 4; told++) {
            due("none", x.by(-1), true);
            for (int text = 0; text <= 4; text++) {
                due("by " + text + " of " + told, x.by(text), text < told);
            }
            due("the latest that was told", x.about(7), told - 1);
            for (int text : new int[] {-2, 4, 5, Integer.MIN_VALUE, Integer.MAX_VALUE}) {
                due("by " + text, x.by(text), false);
                due("it stays", x.about(7), told - 1);
            }
            x.text();
        }
    }

    /** -2 for others. */
    private static void playedOthers() {
        GooseLetters x = new GooseLetters();
        for (int told = 0; told <= 4; told++) {
            for (int text : new int[] {Integer.MIN_VALUE, -2, -1, 0, 1, 2, 3, 4, 5, Integer.MAX_VALUE}) {
                due("played " + text + " of " + told, x.played(text), text >= 0 && text < told ? -1 : -2);
            }
            x.text();
        }
        due("nothing is done", x.about(8), 0);
    }

    /** blanks (32, 10) aside */
    private static void blanks() {
        for (int sign = 0; sign < 256; sign++) {
            String bytes = "ink" + (char) sign + "5;";
            boolean blank = sign == 32 || sign == 10;
            // A digit joins the number, a minus or a bracket opens, a letter joins the word.
            boolean joins = sign >= '0' && sign <= '9' || sign == '-';
            boolean letter = sign >= 'a' && sign <= 'z' || sign >= 'A' && sign <= 'Z';
            if (blank || joins) {
                sound(bytes);
            } else if (letter) {
                fault(bytes, 1, 0);
            } else {
                fault(bytes, 1, sign == '(' ? 5 : 3);
            }
        }
    }

    /** letters a .. z, A .. Z .. digits .. <= >= < > = # + - * / ( ) ; */
    private static void signsAsideLettersAndDigits() {
        for (int sign = 0; sign < 256; sign++) {
            String bytes = "code 1" + (char) sign + "2;";
            if ("<>=#".indexOf(sign) >= 0) {
                sound(bytes);
            } else if ("+-*/0123456789".indexOf(sign) >= 0) {
                fault(bytes, 1, 8);
            } else if (sign == ' ' || sign == '\n') {
                fault(bytes, 1, 7);
            } else {
                fault(bytes, 1, 6);
            }
        }
    }

    /** (the longest) */
    private static void longest() {
        sound("code 1<=2;");
        sound("code 1>=2;");
        fault("code 1< =2;", 1, 8);
        fault("code 1> =2;", 1, 8);
        fault("code 1=<2;", 1, 7);
        fault("code 1=>2;", 1, 7);
        fault("code 1<>2;", 1, 7);
        fault("code 1<==2;", 1, 8);
        fault("code 1##2;", 1, 7);
        fault("code 1<=", 1, 8);
        fault("code 1<", 1, 7);
        fault("ink 12 3;", 1, 7);
        GooseLetters x = new GooseLetters();
        x.goose(1, 1);
        Check.text(x, "code 2<=2;");
        x.by(0);
        due("not < and = of its own", x.of(0, 9), 1);
    }

    /** one behind the other (one TOKEN) */
    private static void oneTokenOfLetters() {
        fault("inkweight;", 1, 0);
        fault("in k 1;", 1, 0);
        fault("code notweight<1;", 1, 5);
        fault("code 1<2or 3<4 andnot 5<6;", 1, 15);
        sound("code not 1<2or 3<4and 5<6;");
        sound("code not1<2or3<4and5<6;");
        sound("ink1;code1=1;pass1;");
        sound("ink weight;");
        fault("ink Weight;", 1, 4);
        fault("ink WEIGHT;", 1, 4);
        fault("INK 1;", 1, 0);
    }

    /** 1 it can't stand there, or is none: words that are nearly one */
    private static void words() {
        String[] all = {"butcher", "reader", "ink", "code", "fill", "send", "fatten", "pass"};
        for (String word : all) {
            fault(word.substring(1) + " 1;", 1, 0);
            fault(word.substring(0, word.length() - 1) + " 1;", 1, 0);
            fault(word + "s 1;", 1, 0);
            fault("a" + word + " 1;", 1, 0);
            fault(word, 1, word.length());
            fault(word + ";", 1, word.length());
        }
        for (String word : new String[] {"with", "to", "or", "and", "not", "goose", "weight", "feathers", "letter", "part", "day",
            "market", "greed", "eyes", "pluck", "name", "x", "grain"}) {
            fault(word + " 1;", 1, 0);
        }
    }

    /** NUMBERS, 0 .. 9999 .. 2 a NUMBER that isn't one of those told (above 9999) */
    private static void numbers() {
        sound("ink 0;");
        sound("ink 9999;");
        sound("ink 00000000000000000009999;");
        fault("ink 10000;", 2, 4);
        fault("ink 000000000000000000010000;", 2, 4);
        fault("ink 2147483648;", 2, 4);
        fault("ink 4294967296;", 2, 4);
        fault("ink 4294967297;", 2, 4);
        fault("ink 18446744073709551617;", 2, 4);
        fault("ink 1+10000;", 2, 6);
        fault("ink -10000;", 2, 5);
        fault("code 10000<1;", 2, 5);
        fault("code 1<10000;", 2, 7);
        fault("ink" + "9".repeat(297), 2, 3);
        sound("ink" + "0".repeat(296) + ";");
    }

    /** GEESE 0 .. 9, LETTERS 0 .. 5, PARTS 0 .. 2, MARKETS 0 .. 3; of pass 1 .. 99 */
    private static void numbersOfDeeds() {
        for (int n : new int[] {0, 1, 2, 3, 4, 5, 6, 9, 10, 99, 100, 9999, 10000}) {
            deed("fill " + n + " with 0 part 0;", n <= 9, 5);
            deed("fill 0 with " + n + " part 0;", n <= 5, 12);
            deed("fill 0 with 0 part " + n + ";", n <= 2, 19);
            deed("send " + n + " to 0;", n <= 9, 5);
            deed("send 0 to " + n + ";", n <= 3, 10);
            deed("fatten " + n + ";", n <= 9, 7);
            deed("pass " + n + ";", n >= 1 && n <= 99, 5);
        }
        sound("fill 0009 with 0005 part 0002; send 0009 to 0003; fatten 0009; pass 00099;");
        fault("pass 00000;", 2, 5);
    }

    private static void deed(String bytes, boolean good, int place) {
        if (good) {
            sound(bytes);
        } else {
            fault(bytes, 2, place);
        }
    }

    /** fill NUMBER with NUMBER part NUMBER ; or send NUMBER to NUMBER ; or fatten NUMBER ; or pass NUMBER ; */
    private static void clausesNeedTheirWords() {
        fault("fill 0 with 0 part 0", 1, 20);
        fault("fill 0 with 0 part", 1, 18);
        fault("fill 0 with 0", 1, 13);
        fault("fill 0 with", 1, 11);
        fault("fill 0", 1, 6);
        fault("fill 0 0", 1, 7);
        fault("fill 0 with part 0;", 1, 12);
        fault("fill 0 part 0 with 0;", 1, 7);
        fault("fill 0 with 0 part 0 part 0;", 1, 21);
        fault("fill (0) with 0 part 0;", 1, 5);
        fault("send 0 to", 1, 9);
        fault("send 0 to to 0;", 1, 10);
        fault("send to 0;", 1, 5);
        fault("send 0 0;", 1, 7);
        fault("fatten goose;", 1, 7);
        fault("fatten -1;", 1, 7);
        fault("pass 1+1;", 1, 6);
        fault("pass -1;", 1, 5);
        fault("pass day;", 1, 5);
        fault("butcher 1 = 1;", 1, 10);
        fault("code weight;", 1, 11);
        fault("code (1=1);", 1, 7);
        fault("code not (1=1);", 1, 11);
        fault("code 1=1 or;", 1, 11);
        fault("code 1=1 and;", 1, 12);
        fault("code 1=1 not 1=1;", 1, 9);
        fault("ink ();", 1, 5);
        fault("ink (1;", 1, 6);
        fault("ink 1);", 1, 5);
        fault("ink *1;", 1, 4);
        fault("ink 1**1;", 1, 6);
        sound("ink 1*-1;");
        sound("ink 1--1;");
        sound("ink 1---1;");
        sound("code 1=-1 and not 2#(3);");
    }

    /** (each once) .. 4 butcher, reader, ink, code for the second time (at it) */
    private static void eachOnce() {
        String[] laws = {"butcher 1;", "reader 1;", "ink 1;", "code 1=1;"};
        for (String first : laws) {
            for (String second : laws) {
                if (first.equals(second)) {
                    fault(first + second, 4, first.length());
                    fault(first + " pass 1; " + second, 4, first.length() + 9);
                } else {
                    sound(first + second);
                }
            }
        }
        sound("code 1=1;ink 1;reader 1;butcher 1;");
        fault("code 1=1;ink 1;reader 1;butcher 1;ink", 4, 34);
        sound("pass 1;pass 1;fatten 0;fatten 0;send 0 to 0;send 0 to 0;fill 0 with 0 part 0;fill 0 with 0 part 0;");
    }

    /** {CLAUSE}, 24 at most .. 6 the 25th CLAUSE (at its first TOKEN) */
    private static void twentyFour() {
        sound("pass 1;".repeat(23));
        sound("pass 1;".repeat(24));
        sound("pass 1;".repeat(24) + " \n");
        fault("pass 1;".repeat(25), 6, 168);
        fault("pass 1;".repeat(26), 6, 168);
        fault("pass 1;".repeat(24) + "  pass", 6, 170);
        fault("pass 1;".repeat(24) + "pass 0;", 6, 168);
        fault("pass 1;".repeat(24) + "fatten", 6, 168);
        fault("pass 1;".repeat(24) + "send", 6, 168);
        fault("pass 1;".repeat(24) + "fill", 6, 168);
        fault("pass 1;".repeat(24) + "code", 6, 168);
        fault("pass 1;".repeat(23) + "pass 0;pass 1;", 2, 166);
        sound("butcher 1;reader 1;ink 1;code 1=1;" + "pass 1;".repeat(20));
        fault("butcher 1;reader 1;ink 1;code 1=1;" + "pass 1;".repeat(21), 6, 174);
    }

    /** (of the end at the length) */
    private static void endOfText() {
        fault("ink", 1, 3);
        fault("ink ", 1, 4);
        fault("ink 1", 1, 5);
        fault("ink 1\n\n", 1, 7);
        fault("ink (1", 1, 6);
        fault("ink -", 1, 5);
        fault("code", 1, 4);
        fault("code not", 1, 8);
        fault("code 1", 1, 6);
        fault("code 1 <", 1, 8);
        fault("code 1 < 2", 1, 10);
        fault("code 1 < 2 or", 1, 13);
        fault("ink 1; reader", 1, 13);
        fault("ink ((((((((", 1, 12);
    }

    /** FAULTS, the first as TOKENS are come to */
    private static void firstAsComeTo() {
        fault("ink eyes + 10000; @", 5, 4);
        fault("ink 10000 + eyes;", 2, 4);
        fault("ink 1; ink eyes;", 4, 7);
        fault("pass 0; @", 2, 5);
        fault("@ pass 0;", 1, 0);
        fault("ink 1 @; ink 2;", 1, 6);
        fault("fill 10 with 6 part 3", 2, 5);
        fault("ink (((((((((eyes", 3, 12);
        fault("ink ((((((((eyes(", 5, 12);
        fault("pass 1;".repeat(24) + "pass 1; @", 6, 168);
    }

    /** of one the least */
    private static void leastOfOne() {
        fault("10000", 1, 0);
        fault("ink 1 10000;", 1, 6);
        fault("fill 0 10000;", 1, 7);
        fault("ink ((((((((1(", 1, 13);
        fault("ink ((((((((not 1", 1, 12);
        fault("code " + "not ".repeat(8) + "1 not", 1, 39);
        fault("code " + "not ".repeat(8) + "1<not", 1, 39);
        fault("ink ink 1;", 1, 4);
        fault("ink 1 ink 2;", 1, 6);
        fault("ink 1; pass ink", 1, 12);
        fault("ink 1 eyes;", 1, 6);
        fault("eyes;", 1, 0);
        fault("fatten eyes;", 1, 7);
        fault("pass 1;".repeat(24) + "eyes", 1, 168);
        fault("pass 1;".repeat(24) + "10000", 1, 168);
        fault("pass 1;".repeat(24) + ";", 1, 168);
        fault("pass 1;".repeat(24) + "@", 1, 168);
        fault("ink 1;" + "pass 1;".repeat(23) + "ink", 4, 167);
        fault("ink 1;" + "pass 1;".repeat(23) + "code", 6, 167);
    }

    /** 3 the 9th of ( not and - (of one ONE) that are open around one another (at it) */
    private static void ninthOpen() {
        String[] openers = {"(", "-", "-(", "(-"};
        for (String opener : openers) {
            String eight = opener.repeat(8 / opener.length());
            int brackets = eight.replace("-", "").length();
            sound("ink " + eight + "1" + ")".repeat(brackets) + ";");
            fault("ink " + eight + "(", 3, 12);
            fault("ink " + eight + "-", 3, 12);
            fault("ink " + eight + " (1);", 3, 13);
            fault("butcher 5+" + eight + "-1", 3, 18);
        }
        for (int nots = 0; nots <= 8; nots++) {
            String code = "code " + "not ".repeat(nots) + "1<" + "(".repeat(8 - nots);
            sound(code + "1" + ")".repeat(8 - nots) + ";");
            fault(code + "(1", 3, code.length());
            fault(code + "-1", 3, code.length());
            sound(code + "1" + ")".repeat(8 - nots) + " and not 2<3;");
            String left = "code " + "not ".repeat(nots) + "-".repeat(8 - nots);
            sound(left + "1<2;");
            fault(left + "-1<2;", 3, left.length());
        }
        fault("code " + "not ".repeat(9) + "1<2;", 3, 37);
        sound("code " + "not ".repeat(8) + "1<2;");
    }

    /** that are open around one another: what is closed counts no more */
    private static void closedAreNotOpen() {
        String eight = "((((((((1))))))))";
        sound("ink " + eight + "+" + eight + "*" + eight + "-" + eight + "/--------1;");
        sound("ink --------1---------1;");
        fault("ink --------1----------1;", 3, 22);
        sound("ink (((((((" + "(1)+(2)*-3--4" + ")))))));");
        fault("ink (((((((" + "(1)+(2)*-(3)", 3, 20);
        sound("code " + "not ".repeat(8) + "1<2 and " + "not ".repeat(8) + "3<4 or " + "not ".repeat(8) + "5<6;");
        sound("code not 1<(((((((1))))))) and 2<((((((((1))))))));");
        fault("code not 1<(((((((1)))))))*-((((((((1", 3, 34);
        sound("butcher ((((((((1)))))))); reader ((((((((1)))))))); ink --------1; code 1<--------1;");
    }

    /** market, greed, eyes in butcher, reader .. 5 a NAME that isn't of that CLAUSE (at it) */
    private static void namesOfClauses() {
        for (String name : new String[] {"goose", "weight", "feathers", "letter", "part", "day"}) {
            sound("butcher " + name + ";reader " + name + ";ink " + name + ";code " + name + "<" + name + ";");
        }
        for (String name : new String[] {"market", "greed", "eyes"}) {
            sound("butcher " + name + ";reader -(" + name + ");");
            fault("ink " + name + ";", 5, 4);
            fault("ink 1+(" + name + ");", 5, 7);
            fault("code " + name + "<1;", 5, 5);
            fault("code 1<" + name + ";", 5, 7);
            fault("code not not 1<2 and -" + name + "<2;", 5, 22);
            fault("butcher " + name + ";ink " + name, 5, 13 + name.length());
            fault("pass " + name + ";", 1, 5);
        }
    }

    /** What a sum is, told by ink of a goose of weight 7 without feathers. */
    private static int value(String sum) {
        GooseLetters x = new GooseLetters();
        x.goose(7, 0);
        due("text of " + sum, Check.text(x, "ink " + sum + ";"), 0);
        x.by(0);
        return x.ink(0, 0, 0);
    }

    private static boolean isTrue(String code) {
        GooseLetters x = new GooseLetters();
        x.goose(7, 0);
        due("text of " + code, Check.text(x, "code " + code + ";"), 0);
        x.by(0);
        return x.of(0, 9) == 1;
    }

    /** what is above 1000000 .. is that, at each step */
    private static void millions() {
        due("999999", value("9999*100+99-9999*100-90"), 9);
        due("1000000", value("9999*100+100-9999*100-91"), 9);
        due("1000001", value("9999*100+101-9999*100-91"), 9);
        due("1000002", value("9999*100+102-9999*100-91"), 9);
        due("1000 * 1000", value("1000*1000-9999*100-91"), 9);
        due("1000 * 1001", value("1000*1001-9999*100-91"), 9);
        due("1000000 * 1000000", value("1000*1000*(1000*1000)-9999*100-91"), 9);
        due("999 * 1001", value("999*1001-9999*100-90"), 9);
        due("0 - -1000001", value("0-(-1000*1000-1)-9999*100-91"), 9);
        due("1000000 - -1000000", value("1000*1000--1000*1000-9999*100-91"), 9);
        due("-1000000 * -2", value("-1000*1000*-2-9999*100-91"), 9);
        due("-1000000 / -1", value("-1000*1000/-1-9999*100-91"), 9);
        due("at each step", value("9999*9999/9999"), 99);
        due("at each step", value("9999*9999/9999-50"), 50);
        due("alike", isTrue("9999*9999=1000*1000"), true);
        due("none above", isTrue("9999*9999>1000*1000"), false);
        due("999999 is another", isTrue("9999*100+99=1000*1000"), false);
        due("1000000 is that", isTrue("9999*100+100=1000*1000"), true);
    }

    /** (below the same less) */
    private static void millionsBelow() {
        due("-999999", value("-9999*100-99+9999*100+108"), 9);
        due("-1000000", value("-9999*100-100+9999*100+109"), 9);
        due("-1000001", value("-9999*100-101+9999*100+109"), 9);
        due("-1000 * 1000", value("-1000*1000+9999*100+109"), 9);
        due("-1000 * 1001", value("-1000*1001+9999*100+109"), 9);
        due("1000000 * -1000000", value("1000*1000*(-1000*1000)+9999*100+109"), 9);
        due("-1000000 - 1000000", value("-1000*1000-1000*1000+9999*100+109"), 9);
        due("- of 1000000", value("-(1000*1000)+9999*100+109"), 9);
        due("- of -1000000", value("-(-1000*1000)-9999*100-91"), 9);
        due("alike", isTrue("-9999*9999=0-1000*1000"), true);
        due("none below", isTrue("-9999*9999<-1000*1000"), false);
        due("-999999 is another", isTrue("-9999*100-99=-1000*1000"), false);
    }

    /** by 0 it is 0 */
    private static void byZero() {
        due("9/0", value("5+9/0"), 5);
        due("0/0", value("5+0/0"), 5);
        due("-9/0", value("5+-9/0"), 5);
        due("by a sum", value("5+9/(3-3)"), 5);
        due("by a product", value("5+9/(0*7)"), 5);
        due("by -0", value("5+9/-0"), 5);
        due("by a name", value("5+weight/feathers"), 5);
        due("by 9/0", value("5+1/(9/0)"), 5);
        due("and goes on", value("9/0*3+2"), 2);
        due("0 by 9", value("5+0/9"), 5);
        due("by 1", value("9/1"), 9);
        due("by -1", value("-9/-1"), 9);
        due("in code", isTrue("1/0=0 and not 1/0#0"), true);
    }

    /** / cuts towards 0 */
    private static void cutsTowardsZero() {
        due("7/2", value("7/2"), 3);
        due("-7/2", value("10+-7/2"), 7);
        due("7/-2", value("10+7/-2"), 7);
        due("-7/-2", value("-7/-2"), 3);
        due("1/2", value("10+1/2"), 10);
        due("-1/2", value("10+-1/2"), 10);
        due("- of 1/2", value("10-1/2"), 10);
        due("(0-7)/2", value("10+(0-7)/2"), 7);
    }

    /** From the left */
    private static void fromTheLeft() {
        due("20-5-4", value("20-5-4"), 11);
        due("20-5+4", value("20-5+4"), 19);
        due("90/9/5", value("90/9/5"), 2);
        due("7/2*2", value("7/2*2"), 6);
        due("2*7/2", value("2*7/2"), 7);
        due("- binds its one", value("50-2*-3"), 56);
        due("- ahead of *", value("100+-7/2*2"), 94);
        due("and ahead of or", isTrue("1=1 or 1=1 and 1=2"), true);
        due("and ahead of or", isTrue("1=2 and 1=1 or 1=1"), true);
        due("not takes one ask", isTrue("not 1=2 or 1=1"), true);
        due("not takes one ask", isTrue("not 1=1 and 1=2"), false);
        due("not takes one ask", isTrue("not 1=1 or 1=1"), true);
    }

    /** SUM one of < <= > >= = # (unlike) SUM: just below, alike, just above */
    private static void comparisons() {
        String[] signs = {"<", "<=", ">", ">=", "=", "#"};
        boolean[][] answers = {{true, false, false}, {true, true, false}, {false, false, true}, {false, true, true},
            {false, true, false}, {true, false, true}};
        String[][] sums = {{"6", "weight", "8"}, {"-8", "-weight", "0-6"}, {"9999*100+99", "1000*1000", "1000*1000"}};
        for (int i = 0; i < signs.length; i++) {
            for (int k = 0; k < 2; k++) {
                for (int at = 0; at < 3; at++) {
                    String ask = sums[k][at] + signs[i] + sums[k][1];
                    due(ask, isTrue(ask), answers[i][at]);
                    due("not " + ask, isTrue("not " + ask), !answers[i][at]);
                    due("not not " + ask, isTrue("not not " + ask), answers[i][at]);
                }
            }
            String most = sums[2][0] + signs[i] + sums[2][1];
            due(most, isTrue(most), answers[i][0]);
            String alike = "9999*9999" + signs[i] + sums[2][2];
            due(alike, isTrue(alike), answers[i][1]);
        }
    }

    /** EITHER: BOTH {or BOTH}. BOTH: ASK {and ASK}. */
    private static void notAndOr() {
        for (int bits = 0; bits < 8; bits++) {
            boolean a = (bits & 4) != 0;
            boolean b = (bits & 2) != 0;
            boolean c = (bits & 1) != 0;
            String x = a ? "1=1" : "1=2";
            String y = b ? "2#1" : "2#2";
            String z = c ? "3>=3" : "3>=4";
            due("or or " + bits, isTrue(x + " or " + y + " or " + z), a || b || c);
            due("and and " + bits, isTrue(x + " and " + y + " and " + z), a && b && c);
            due("or and " + bits, isTrue(x + " or " + y + " and " + z), a || b && c);
            due("and or " + bits, isTrue(x + " and " + y + " or " + z), a && b || c);
            due("not or not " + bits, isTrue("not " + x + " or not " + y + " and not " + z), !a || !b && !c);
        }
    }

    /** Day 999; goose 9, of weight 20 with 99 feathers, has letter 5; four markets of 9 each. */
    private static GooseLetters largest(int part) {
        GooseLetters x = new GooseLetters();
        for (int i = 0; i < 4; i++) {
            x.market(9, 9, 9);
        }
        for (int i = 0; i < 10; i++) {
            x.goose(20, 99);
        }
        x.store(9999, 0);
        x.fill(9, 5, part);
        for (int i = 0; i < 10; i++) {
            x.pass(99);
            x.store(9999, 0);
        }
        due("the last day", x.pass(9), 999);
        return x;
    }

    /** NAMES, each the largest that it can be */
    private static void largestNames() {
        GooseLetters x = largest(2);
        Check.text(x, "code goose=9 and weight=20 and feathers=99 and letter=5 and part=2 and day=999;"
            + "ink goose+weight/4+feathers/9+letter+part+day/999;");
        x.by(0);
        due("true", x.of(9, 9), 1);
        due("another one is not", x.of(8, 9), 0);
        due("ink", x.ink(9, 5, 2), 9 + 5 + 11 + 5 + 2 + 1);
        GooseLetters y = largest(0);
        Check.text(y, "butcher market+greed+eyes-16; reader market*10+day-1037;");
        y.by(0);
        due("there", y.send(9, 3), 1008);
        due("friends by 3 + 9 + 9 - 16", y.odds(5, 0, false), 1);
        due("friends by 3 + 9 + 9 - 16", y.odds(5, 0, true), 2);
        due("the enemy by 30 + 1008 - 1037", y.odds(5, 1, false), 1);
        due("the enemy by 30 + 1008 - 1037", y.odds(5, 1, true), 20);
    }

    /** ink: 0 at least, 99 at most */
    private static void inkLimits() {
        int[][] inks = {{-9999, 0}, {-1, 0}, {0, 0}, {1, 1}, {98, 98}, {99, 99}, {100, 99}, {9999, 99}};
        for (int[] i : inks) {
            GooseLetters x = new GooseLetters();
            x.goose(1, 1);
            Check.text(x, "ink " + i[0] + ";");
            x.by(0);
            due("ink " + i[0], x.ink(0, 0, 0), i[1]);
            x.store(i[1], 0);
            due("that much is there", x.fill(0, 0, 0), 0);
        }
    }

    private static GooseLetters sent(String laws) {
        GooseLetters x = new GooseLetters();
        x.market(1, 5, 5);
        x.goose(1, 1);
        x.store(9, 0);
        x.fill(0, 0, 0);
        x.send(0, 0);
        due("text " + laws, Check.text(x, laws), 0);
        x.by(0);
        return x;
    }

    /** butcher .. 0 at least, 10 at most */
    private static void butcherLimits() {
        int[][] butchers = {{-9999, 1, 1}, {-1, 1, 1}, {0, 1, 1}, {1, 9, 10}, {9, 1, 10}, {10, 0, 1}, {11, 0, 1}, {9999, 0, 1}};
        for (int[] b : butchers) {
            GooseLetters x = sent("butcher " + b[0] + ";");
            due("friends by butcher " + b[0], x.odds(0, 0, false), b[1]);
            due("friends by butcher " + b[0], x.odds(0, 0, true), b[2]);
        }
    }

    /** reader: 0 at least, 10 at most */
    private static void readerLimits() {
        int[][] readers = {{-9999, 0, 1}, {-1, 0, 1}, {0, 0, 1}, {1, 1, 10}, {9, 9, 10}, {10, 1, 1}, {11, 1, 1}, {9999, 1, 1}};
        for (int[] r : readers) {
            GooseLetters x = sent("butcher 10; reader " + r[0] + ";");
            due("the enemy by reader " + r[0], x.odds(0, 1, false), r[1]);
            due("the enemy by reader " + r[0], x.odds(0, 1, true), r[2]);
        }
    }

    /** without: GREED, EYES .. without: 1 .. (without: it is) */
    private static void withoutLaws() {
        for (int greed = 0; greed <= 9; greed += 3) {
            for (int eyes = 0; eyes <= 9; eyes += 3) {
                GooseLetters x = new GooseLetters();
                x.market(1, greed, eyes);
                x.goose(1, 1);
                x.store(9, 0);
                due("ink", x.ink(0, 0, 0), 1);
                due("true", x.of(0, 9), 1);
                due("fill", x.fill(0, 0, 0), 8);
                x.send(0, 0);
                for (int round = 0; round < 2; round++) {
                    long friends = x.odds(0, 0, false) * 10 / x.odds(0, 0, true);
                    due("friends by greed " + greed, friends, 10 - greed);
                    due("the enemy", x.odds(0, 1, false) * 100 / x.odds(0, 1, true), greed * eyes);
                    x.text();
                    due("a text without laws rules", x.by(0), true);
                    due("ink", x.ink(0, 0, 0), 1);
                    due("true", x.of(0, 9), 1);
                }
            }
        }
        GooseLetters y = sent("butcher 2;");
        due("reader is eyes", y.odds(0, 1, true), 10);
        GooseLetters z = sent("reader 2;");
        due("butcher is greed", z.odds(0, 0, true), 2);
        due("reader", z.odds(0, 1, true), 10);
    }

    /** ink .. (whatever it is) .. NONE for others */
    private static void inkOthers() {
        GooseLetters x = new GooseLetters();
        due("no goose", x.ink(0, 0, 0), -1);
        x.goose(1, 1);
        int[][] others = {{-1, 0, 0}, {1, 0, 0}, {10, 0, 0}, {0, -1, 0}, {0, 6, 0}, {0, 0, -1}, {0, 0, 3},
            {Integer.MIN_VALUE, 0, 0}, {0, Integer.MAX_VALUE, 0}, {0, 0, Integer.MIN_VALUE}};
        for (int[] o : others) {
            due("ink of others", x.ink(o[0], o[1], o[2]), -1);
        }
        due("letter 0 part 0", x.ink(0, 0, 0), 1);
        due("letter 5 part 2", x.ink(0, 5, 2), 1);
        due("grain isn't asked", x.about(2), 0);
    }

    /** (-1 without a QUILL; of ink those that it is FILLED with) */
    private static void inkNames() {
        GooseLetters x = new GooseLetters();
        x.goose(1, 1);
        x.goose(1, 1);
        x.store(99, 0);
        x.fill(1, 5, 2);
        Check.text(x, "ink letter*10+part; code letter=-1 and part=-1;");
        x.by(0);
        for (int goose = 0; goose < 2; goose++) {
            for (int letter = 0; letter <= 5; letter++) {
                for (int part = 0; part <= 2; part++) {
                    due("ink", x.ink(goose, letter, part), letter * 10 + part);
                }
            }
        }
        due("without a quill", x.of(0, 9), 1);
        due("with one", x.of(1, 9), 0);
        due("what it costs", x.fill(0, 3, 1), 98 - 31);
        due("with one", x.of(0, 9), 0);
    }

    /** day (DAY; of butcher and reader that on which it is THERE) */
    private static void dayNames() {
        GooseLetters x = new GooseLetters();
        x.market(4, 0, 0);
        x.goose(1, 1);
        x.store(99, 0);
        x.pass(3);
        Check.text(x, "butcher day; reader day; ink day; code day = 3;");
        x.by(0);
        due("ink", x.ink(0, 0, 0), 3);
        due("true on day 3", x.of(0, 9), 1);
        x.fill(0, 0, 0);
        x.send(0, 0);
        due("friends by the day there", x.odds(0, 0, false), 3);
        due("of", x.odds(0, 0, true), 10);
        x.pass(1);
        due("not on day 4", x.of(0, 9), 0);
        due("the day there is the same", x.odds(0, 1, false), 49);
        due("of", x.odds(0, 1, true), 100);
    }

    /** its number among all CLAUSES (from 0); what was done stays */
    private static void playedNumbers() {
        for (int ahead = 0; ahead <= 20; ahead++) {
            GooseLetters x = new GooseLetters();
            Check.text(x, "butcher 1;".repeat(ahead > 0 ? 1 : 0) + "pass 1;".repeat(Math.max(0, ahead - 1)) + "fatten 0; pass 9;");
            due("the clause that can't be", x.played(0), ahead);
            due("what was done stays", x.about(4), Math.max(0, ahead - 1));
            due("steps", x.about(8), Math.max(0, ahead - 1));
        }
        GooseLetters y = new GooseLetters();
        Check.text(y, "pass 1;".repeat(23) + "fatten 0;");
        due("the last of 24", y.played(0), 23);
        due("day", y.about(4), 23);
    }

    /** NONE: all is done .. one that can't be ends it */
    private static void playedUpToTheLast() {
        String[] deeds = {"fill 0 with 5 part 2;", "fatten 0;", "send 0 to 0;", "pass 1;", "pass 99;"};
        StringBuilder all = new StringBuilder();
        for (String deed : deeds) {
            all.append(deed);
        }
        GooseLetters x = new GooseLetters();
        x.market(1, 0, 0);
        x.goose(19, 1);
        x.store(2, 0);
        Check.text(x, all.toString());
        due("all is done", x.played(0), -1);
        due("day", x.about(4), 100);
        due("with friends", x.of(0, 4), 2);
        due("again", x.played(0), 0);
        Check.text(x, all.substring(deeds[0].length()));
        due("again from the second", x.played(1), 0);
        due("day", x.about(4), 100);
        for (int grain = 0; grain < 2; grain++) {
            GooseLetters y = new GooseLetters();
            y.market(1, 0, 0);
            y.goose(19, 1);
            y.store(grain, 0);
            Check.text(y, all.toString());
            due("grain " + grain + " is not enough", y.played(0), grain);
            due("steps", y.about(8), grain);
        }
    }

    /** fill NUMBER with NUMBER part NUMBER ; or send NUMBER to NUMBER ; or fatten NUMBER ;: the largest and the least */
    private static void playedNumbersOfDeeds() {
        GooseLetters x = new GooseLetters();
        for (int i = 0; i < 4; i++) {
            x.market(6 + i, 0, 0);
        }
        for (int i = 0; i < 10; i++) {
            x.goose(1 + i, 1);
        }
        x.store(100, 0);
        Check.text(x, "fill 9 with 5 part 2; fatten 9; send 9 to 3; fill 0 with 0 part 0; fatten 0; send 0 to 0;"
            + "fill 7 with 3 part 1; send 7 to 2;");
        due("played", x.played(0), -1);
        int[][] want = {{9, 11, 5, 2, 3, 9}, {0, 2, 0, 0, 0, 6}, {7, 8, 3, 1, 2, 8}};
        for (int[] w : want) {
            due("weight of " + w[0], x.of(w[0], 0), w[1]);
            due("letter of " + w[0], x.of(w[0], 2), w[2]);
            due("part of " + w[0], x.of(w[0], 3), w[3]);
            due("market of " + w[0], x.of(w[0], 5), w[4]);
            due("there of " + w[0], x.of(w[0], 6), w[5]);
        }
        due("home", x.about(20), 7);
    }
}
