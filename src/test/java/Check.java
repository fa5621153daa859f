/** What the tests share: counting wrong answers, and feeding a text to a tape. */
final class Check {
    private static int wrong = 0;

    private Check() {
    }

    static void due(String what, long got, long want) {
        if (got != want) {
            wrong++;
            System.out.println(what + " answered " + got + ", due is " + want);
        }
    }

    static void due(String what, boolean got, boolean want) {
        due(what, got ? 1 : 0, want ? 1 : 0);
    }

    static void finish() {
        System.out.println(wrong == 0 ? "all answers are as due" : wrong + " answers are not as due");
        if (wrong != 0) {
            System.exit(1);
        }
    }

    /** The five numbers that feed the twenty bytes from a place on, blanks behind the end. */
    static int[] words(String bytes, int from) {
        int[] words = new int[5];
        for (int i = 0; i < 20; i++) {
            int sign = from + i < bytes.length() ? bytes.charAt(from + i) : ' ';
            words[i / 4] = words[i / 4] << 8 | sign & 255;
        }
        return words;
    }

    /** The tape, which must be empty, has these bytes then. */
    static void tape(GooseLetters letters, String bytes) {
        for (int i = 0; i < bytes.length(); i += 20) {
            int[] w = words(bytes, i);
            letters.feed(w[0], w[1], w[2], w[3], w[4]);
        }
        letters.end(bytes.length());
    }

    static int text(GooseLetters letters, String bytes) {
        tape(letters, bytes);
        return letters.text();
    }
}
