/** Counts and prints the answers that are not the ones that are due. */
final class Due {
    static final int INVALID = PeerStorage.INVALID_ARGUMENT;
    static final int IMPOSSIBLE = PeerStorage.NOT_POSSIBLE;
    static final int LIMIT = PeerStorage.LIMIT_REACHED;
    static final int MISSING = PeerStorage.NOT_FOUND;
    /** Arguments that no parameter of the document takes. */
    static final int[] WILD = {Integer.MIN_VALUE, -1000000, -10001, -1, 4096, 1000000, Integer.MAX_VALUE};

    private static int checked = 0;
    private static int wrong = 0;
    private static String sentence = "";

    private Due() {
    }

    /** Names the words before the promises that the next answers are due to; SentencesTest reads them. */
    static void terms(String words) {
        sentence = "Terms: \"" + words + "\"";
    }

    /** Names the words of a promise that the next answers are due to; SentencesTest reads them. */
    static void promise(int number, String words) {
        sentence = "Promise " + number + ": \"" + words + "\"";
    }

    static void is(String what, long want, long got) {
        checked++;
        if (want != got) {
            tell(what + " answered " + got + ", due is " + want);
        }
    }

    static void same(String what, String want, String got) {
        checked++;
        if (!want.equals(got)) {
            tell(what + " gave\n  " + got + "\ndue is\n  " + want);
        }
    }

    private static void tell(String fault) {
        wrong++;
        if (!sentence.isEmpty()) {
            System.out.println(sentence);
        }
        System.out.println(fault);
    }

    /** Ends the test, with exit code 1 if an answer was wrong or none was looked at. */
    static void end() {
        System.out.println(checked + " answers looked at, " + wrong + " wrong");
        if (wrong != 0 || checked == 0) {
            System.exit(1);
        }
    }
}
