/**
 * The limits of STEPS, of AN IMAGE, of HOLDS and of about: promises 1, 18, 27, 28, 29 and 30. Each test's comment is the
 * document's own words.
 */
public final class StepsEdgesTest {
    public static void main(String[] args) {
        newObject();
        newObjectIsTheImage();
        noStep();
        eachStep();
        thoseThatAreNone();
        refusedIsNoStep();
        twentyOfTwenty();
        twentyOfMore();
        dayAfterDay();
        playedSteps();
        toldSince();
        tenthToldSince();
        whatStays();
        xIsTakenBack();
        eatenIsTakenBack();
        holdsMost();
        holdsLeast();
        holdsOfHome();
        imageStays();
        imageOfSteps();
        imageOfFullSteps();
        imageOfTexts();
        tapeAndFaultStay();
        imageOfAFullTown();
        aboutOthers();
        aboutFates();
        Check.finish();
    }

    private static void due(String what, long got, long want) {
        Check.due(what, got, want);
    }

    private static void due(String what, boolean got, boolean want) {
        Check.due(what, got, want);
    }

    /** No GEESE */
    private static void newObject() {
        GooseLetters x = new GooseLetters();
        int[] first = {-2, 0, 0, 0, 0, 0, 9, 0, -1, 0, 0};
        for (int what = -1; what <= 9; what++) {
            due("about(" + what + ")", x.about(what), first[what + 1]);
        }
        for (int market = 0; market < 4; market++) {
            due("no market " + market, x.about(10 + market), -2);
        }
        for (int goose = 0; goose < 10; goose++) {
            due("no goose " + goose, x.of(goose, 0), -2);
        }
        due("no fault", x.fault(0), -1);
        due("no place", x.fault(1), -1);
    }

    /** THE IMAGE is this */
    private static void newObjectIsTheImage() {
        GooseLetters x = new GooseLetters();
        x.market(1, 2, 3);
        x.goose(4, 5);
        x.store(6, 7);
        x.seed(8);
        x.fatten(0);
        x.pass(9);
        Check.text(x, "ink 1;");
        x.by(0);
        due("back", x.back(), 0);
        Picture empty = Picture.of(new GooseLetters());
        x.text();
        GooseLetters y = new GooseLetters();
        y.text();
        Picture.of(x).dueAs("the image of a new object", Picture.of(y));
        GooseLetters z = new GooseLetters();
        z.back();
        Picture.of(z).dueAs("back at once", empty);
    }

    /** The latest STEP is taken back: how many can be yet. NONE: there is none. */
    private static void noStep() {
        GooseLetters x = new GooseLetters();
        due("none", x.undo(), -1);
        due("none", x.about(8), 0);
        x.pass(1);
        due("one", x.about(8), 1);
        due("none is left", x.undo(), 0);
        due("none", x.undo(), -1);
        due("day", x.about(4), 0);
    }

    /** A town with a goose of each kind of deed ahead of it. */
    private static GooseLetters town() {
        GooseLetters x = new GooseLetters();
        x.market(1, 0, 0);
        x.goose(5, 5);
        x.store(100, 1);
        return x;
    }

    /** STEPS: all these (several DAYS at once are one) */
    private static void eachStep() {
        GooseLetters x = town();
        x.fill(0, 3, 2);
        due("fill", x.about(8), 1);
        x.fatten(0);
        due("fatten", x.about(8), 2);
        x.pluck(0);
        due("pluck", x.about(8), 3);
        x.send(0, 0);
        due("send", x.about(8), 4);
        x.goose(6, 6);
        x.name(1);
        due("name", x.about(8), 5);
        x.pass(1);
        due("a day", x.about(8), 6);
        x.pass(99);
        due("days", x.about(8), 7);
    }

    /** STEPS: all these (and no other call) */
    private static void thoseThatAreNone() {
        GooseLetters x = town();
        x.pass(1);
        x.market(2, 2, 2);
        x.goose(2, 2);
        x.store(50, 5);
        x.seed(5);
        x.feed(0, 0, 0, 0, 0);
        x.end(0);
        x.text();
        x.by(0);
        x.played(0);
        x.image();
        x.back();
        Picture.of(x);
        due("one step", x.about(8), 1);
        due("taken back", x.undo(), 0);
        due("day", x.about(4), 0);
    }

    /** NONE, if it can't be: then it is no STEP that could be taken back */
    private static void refusedIsNoStep() {
        GooseLetters x = town();
        x.pass(1);
        x.fill(0, 6, 0);
        x.send(0, 1);
        x.fatten(1);
        x.pluck(1);
        x.name(1);
        x.pass(100);
        due("one step", x.about(8), 1);
        due("the day is taken back", x.undo(), 0);
        due("day", x.about(4), 0);
    }

    /** the latest 20 can be taken back, the latest first: of 20 all */
    private static void twentyOfTwenty() {
        GooseLetters x = town();
        for (int i = 1; i <= 20; i++) {
            x.pass(i);
            due("steps", x.about(8), i);
        }
        int day = 210;
        for (int i = 20; i >= 1; i--) {
            due("undo", x.undo(), i - 1);
            day -= i;
            due("day", x.about(4), day);
        }
        due("none is left", x.undo(), -1);
        due("day", x.about(4), 0);
        due("grain", x.about(2), 100);
    }

    /** the latest 20 can be taken back, the latest first: of 21 and more the first ones stay */
    private static void twentyOfMore() {
        for (int steps = 21; steps <= 64; steps++) {
            GooseLetters x = new GooseLetters();
            for (int i = 0; i < steps; i++) {
                x.pass(1);
                due("steps", x.about(8), Math.min(20, i + 1));
            }
            for (int i = 19; i >= 0; i--) {
                due("undo", x.undo(), i);
            }
            due("none is left of " + steps, x.undo(), -1);
            due("day behind " + steps, x.about(4), steps - 20);
        }
    }

    /** the latest 20: steps taken back make room for others */
    private static void dayAfterDay() {
        for (int taken = 0; taken <= 20; taken++) {
            GooseLetters x = new GooseLetters();
            for (int i = 0; i < 33; i++) {
                x.pass(1);
            }
            for (int i = 0; i < taken; i++) {
                x.undo();
            }
            due("steps", x.about(8), 20 - taken);
            for (int i = 0; i <= taken; i++) {
                x.pass(2);
                due("steps", x.about(8), Math.min(20, 21 - taken + i));
            }
            for (int i = 0; i < 25; i++) {
                x.undo();
            }
            due("day behind taking back " + taken, x.about(4), taken == 20 ? 15 : 14);
        }
    }

    /** PLAYED .. as by hand: each CLAUSE is a STEP */
    private static void playedSteps() {
        GooseLetters x = town();
        Check.text(x, "pass 1;".repeat(24));
        due("played", x.played(0), -1);
        due("day", x.about(4), 24);
        due("steps", x.about(8), 20);
        for (int i = 0; i < 20; i++) {
            x.undo();
        }
        due("day", x.about(4), 4);
        due("none is left", x.undo(), -1);
    }

    /** GEESE told since stay as told */
    private static void toldSince() {
        GooseLetters x = town();
        x.pass(1);
        x.goose(7, 70);
        x.fill(1, 1, 1);
        x.pluck(1);
        x.fatten(1);
        x.send(1, 0);
        x.pass(1);
        for (int i = 0; i < 6; i++) {
            x.undo();
        }
        due("geese", x.about(1), 2);
        int[] told = {7, 70, -1, -1, 0, -1, -1, -1, 0, 1};
        for (int what = 0; what < told.length; what++) {
            due("as told " + what, x.of(1, what), told[what]);
        }
        due("none is left", x.undo(), -1);
    }

    /** GEESE told since stay as told: all ten of them */
    private static void tenthToldSince() {
        GooseLetters x = new GooseLetters();
        x.pass(1);
        for (int goose = 0; goose < 10; goose++) {
            x.goose(1 + goose, 10 * goose);
            x.name(goose);
        }
        for (int i = 0; i < 11; i++) {
            due("undo", x.undo(), 10 - i);
        }
        due("geese", x.about(1), 10);
        for (int goose = 0; goose < 10; goose++) {
            due("weight", x.of(goose, 0), 1 + goose);
            due("feathers", x.of(goose, 1), 10 * goose);
            due("not named", x.of(goose, 8), 0);
        }
        due("still ten", x.goose(1, 1), -1);
    }

    /** what is told of GEESE, GRAIN, DAY, X are as ahead of it (.. MOUTHS stay): and all else stays */
    private static void whatStays() {
        GooseLetters x = town();
        x.pass(1);
        x.market(7, 7, 7);
        x.store(42, 99);
        Check.text(x, "ink 9;");
        x.by(0);
        Check.tape(x, "abc");
        due("undo", x.undo(), 0);
        int[] want = {2, 1, 100, 99, 0, 9, 1, 0, 0, 3};
        for (int what = 0; what < want.length; what++) {
            due("about(" + what + ")", x.about(what), want[what]);
        }
        due("the market stays", x.about(11), 777);
    }

    /** X are as ahead of it: also where it was given by a SEED since */
    private static void xIsTakenBack() {
        GooseLetters x = town();
        x.seed(5);
        x.fatten(0);
        x.seed(6);
        x.send(0, 0);
        x.pass(1);
        x.seed(9999);
        x.undo();
        due("x as ahead of the day", x.about(5), 75);
        x.undo();
        due("x as ahead of the sending", x.about(5), 75);
        x.undo();
        due("x as ahead of the fattening", x.about(5), 64);
    }

    /** what is told of GEESE: one EATEN at home is HOME again */
    private static void eatenIsTakenBack() {
        GooseLetters x = new GooseLetters();
        x.goose(3, 3);
        x.goose(4, 4);
        x.store(1, 1);
        x.pass(3);
        due("eaten at home", x.about(25), 2);
        due("undo", x.undo(), 0);
        due("home", x.about(20), 2);
        due("then", x.of(0, 7), -1);
        due("then", x.of(1, 7), -1);
        due("grain", x.about(2), 1);
    }

    /** HOLDS .. (999 at most) */
    private static void holdsMost() {
        GooseLetters x = new GooseLetters();
        due("no grain and no need", x.holds(), 999);
        int[][] stores = {{998, 1, 998}, {999, 1, 999}, {1000, 1, 999}, {9999, 1, 999}, {9999, 10, 999}, {9989, 10, 998},
            {9990, 10, 999}, {9999, 11, 909}, {9999, 0, 999}, {0, 0, 999}};
        for (int[] s : stores) {
            x.store(s[0], s[1]);
            due("grain " + s[0] + " of " + s[1], x.holds(), s[2]);
        }
    }

    /** for how many DAYS on end GRAIN is enough */
    private static void holdsLeast() {
        GooseLetters x = new GooseLetters();
        int[][] stores = {{0, 1, 0}, {98, 99, 0}, {99, 99, 1}, {197, 99, 1}, {198, 99, 2}};
        for (int[] s : stores) {
            x.store(s[0], s[1]);
            due("grain " + s[0] + " of " + s[1], x.holds(), s[2]);
        }
        x.store(198, 99);
        x.goose(5, 5);
        due("with a goose", x.holds(), 1);
        x.pass(1);
        due("a day later", x.holds(), 0);
        due("grain", x.about(2), 98);
        x.pass(1);
        due("it was not enough", x.of(0, 4), 5);
    }

    /** for MOUTHS and GEESE that are HOME now, if no GOOSE comes or goes */
    private static void holdsOfHome() {
        GooseLetters x = new GooseLetters();
        x.market(1, 0, 0);
        for (int i = 0; i < 10; i++) {
            x.goose(1, 1);
        }
        x.store(9, 0);
        due("ten", x.holds(), 0);
        x.send(0, 0);
        due("nine", x.holds(), 1);
        x.name(1);
        due("one of them named", x.holds(), 1);
        for (int goose = 2; goose < 10; goose++) {
            x.send(goose, 0);
        }
        due("one", x.holds(), 9);
        x.pass(1);
        due("those with friends need nothing", x.holds(), 8);
    }

    /** All is as at THE IMAGE again (it stays): DAY. */
    private static void imageStays() {
        GooseLetters x = town();
        x.pass(3);
        due("image", x.image(), 3);
        Picture kept = Picture.of(x);
        for (int i = 1; i <= 3; i++) {
            x.pass(10);
            x.goose(1, 1);
            due("back", x.back(), 3);
        }
        due("back twice", x.back(), 3);
        Picture.of(x).dueAs("the image", kept);
        x.pass(4);
        due("a later image", x.image(), 7);
        due("day", x.back(), 7);
    }

    /** AN IMAGE: all as it is, STEPS as well */
    private static void imageOfSteps() {
        GooseLetters x = town();
        x.pass(1);
        x.pass(2);
        x.image();
        x.undo();
        x.undo();
        due("none is left", x.undo(), -1);
        x.pass(50);
        due("back", x.back(), 3);
        due("steps", x.about(8), 2);
        due("undo", x.undo(), 1);
        due("day", x.about(4), 1);
        due("undo", x.undo(), 0);
        due("day", x.about(4), 0);
        due("grain", x.about(2), 100);
        due("back", x.back(), 3);
        due("steps", x.about(8), 2);
    }

    /** AN IMAGE: all as it is, STEPS as well: twenty of them, whatever was done since */
    private static void imageOfFullSteps() {
        for (int before = 18; before <= 42; before += 3) {
            for (int since = 0; since <= 24; since += 4) {
                GooseLetters x = new GooseLetters();
                for (int i = 0; i < before; i++) {
                    x.pass(1);
                }
                x.image();
                for (int i = 0; i < since; i++) {
                    x.pass(3);
                }
                due("back", x.back(), before);
                for (int i = Math.min(20, before); i > 0; i--) {
                    due("undo", x.undo(), i - 1);
                }
                due("none is left", x.undo(), -1);
                due("day", x.about(4), Math.max(0, before - 20));
            }
        }
    }

    /** TEXTS told behind it are gone behind going back */
    private static void imageOfTexts() {
        GooseLetters x = town();
        Check.text(x, "ink 2; pass 5;");
        x.by(0);
        x.image();
        Check.text(x, "ink 3; pass 6;");
        Check.text(x, "ink 4; pass 7;");
        Check.text(x, "ink 5; pass 8;");
        due("four", Check.text(x, "ink 6;"), -1);
        x.by(3);
        due("ink", x.ink(0, 0, 0), 5);
        x.back();
        due("texts", x.about(6), 1);
        due("the text", x.about(7), 0);
        due("ink", x.ink(0, 0, 0), 2);
        for (int text = 1; text < 4; text++) {
            due("gone " + text, x.by(text), false);
            due("gone " + text, x.played(text), -2);
        }
        due("the tape stays", x.about(9), 6);
        due("there is room again", x.text(), 1);
        due("by", x.by(1), true);
        due("ink", x.ink(0, 0, 0), 6);
        due("the one that was told ahead", x.played(0), -1);
        due("day", x.about(4), 5);
    }

    /** all .. but the tape and the latest FAULT */
    private static void tapeAndFaultStay() {
        GooseLetters x = new GooseLetters();
        Check.tape(x, "ink 1;");
        x.image();
        due("ahead of any", x.fault(0), -1);
        x.end(3);
        x.back();
        due("tape", x.about(9), 3);
        due("text", x.text(), -1);
        x.back();
        due("the tape is empty", x.about(9), 0);
        due("fault", x.fault(0), 1);
        due("place", x.fault(1), 3);
        Check.text(x, "ink 1;");
        x.back();
        due("no fault", x.fault(0), 0);
        due("no place", x.fault(1), -1);
        due("text is gone", x.about(6), 0);
    }

    private static GooseLetters fullTown() {
        GooseLetters x = new GooseLetters();
        for (int i = 0; i < 4; i++) {
            x.market(1 + i, 9, 9 - i);
            Check.text(x, "ink " + i + ";");
        }
        for (int i = 0; i < 10; i++) {
            x.goose(1 + i, 99 - i);
        }
        x.store(9999, 99);
        x.by(3);
        return x;
    }

    /** AN IMAGE: all as it is: also of a town that is full */
    private static void imageOfAFullTown() {
        GooseLetters x = fullTown();
        x.image();
        x.fill(0, 0, 0);
        x.send(0, 0);
        x.name(9);
        x.pass(9);
        x.store(0, 0);
        x.by(-1);
        x.back();
        Picture.of(x).dueAs("a full town", Picture.of(fullTown()));
        due("no market more", x.market(1, 1, 1), -1);
        due("no goose more", x.goose(1, 1), -1);
        due("no text more", x.text(), -1);
    }

    /** -2 for others. */
    private static void aboutOthers() {
        GooseLetters x = new GooseLetters();
        for (int i = 0; i <= 4; i++) {
            for (int market = 0; market < 4; market++) {
                due("market " + market + " of " + i, x.about(10 + market), market < i ? 111 : -2);
            }
            x.market(1, 1, 1);
        }
        int[] others = {-1, 14, 15, 19, 26, 27, 30, 100, Integer.MIN_VALUE, Integer.MAX_VALUE};
        for (int what : others) {
            due("about(" + what + ")", x.about(what), -2);
        }
    }

    /** 20 + fate: how many GEESE have it */
    private static void aboutFates() {
        GooseLetters x = new GooseLetters();
        for (int fate = 0; fate < 6; fate++) {
            due("none of fate " + fate, x.about(20 + fate), 0);
        }
        for (int i = 1; i <= 10; i++) {
            x.goose(1, 1);
            due("home", x.about(20), i);
        }
        x.market(1, 0, 0);
        for (int i = 0; i < 10; i++) {
            x.send(i, 0);
            due("on their way", x.about(21), i + 1);
            due("home", x.about(20), 9 - i);
        }
        x.pass(1);
        due("with friends", x.about(22), 10);
        due("on their way", x.about(21), 0);
    }
}
