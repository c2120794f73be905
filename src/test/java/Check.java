/** Compares answers with those that are due, sentence by sentence of the document, and tells at the end how it went. */
final class Check {
    static final long BEYOND = -1000001;
    static final long FULL = -1000002;
    static final long KIND = -1000003;
    static final long NONE = -1000004;
    static final long STATE = -1000005;
    static final long MISSING = -1000006;
    static final long SIZE = -1000007;

    static final int LEAST = Integer.MIN_VALUE;
    static final int MOST = Integer.MAX_VALUE;

    private static int checks = 0;
    private static int wrong = 0;
    private static String sentence = "";
    private static int checksBefore = -1;

    private Check() {
    }

    /**
     * Begins the checks of one sentence, or of a part of it: where it stands (the number of a promise, or the
     * word in capitals with which a line of the Terms begins), and its own words, which SentencesTest looks up.
     */
    static void sentence(String where, String words) {
        endSentence();
        sentence = where + ", '" + words + "': ";
        checksBefore = checks;
    }

    private static void endSentence() {
        if (checks == checksBefore) {
            wrong++;
            System.out.println(sentence + "nothing was checked");
        }
    }

    static void due(String call, long got, long want) {
        checks++;
        if (got != want) {
            wrong++;
            System.out.println(sentence + call + " answered " + got + ", due is " + want);
        }
    }

    static void that(String what, boolean holds) {
        due(what, holds ? 1 : 0, 1);
    }

    /** Feeds a text and reads it. */
    static int read(TunnelPeace x, String text) {
        feed(x, text);
        return x.text();
    }

    /** Four bytes a call, as an object is used for at most 512 calls. */
    static void feed(TunnelPeace x, String text) {
        for (int i = 0; i < text.length(); i += 4) {
            int n = Math.min(4, text.length() - i);
            int bytes = 0;
            for (int k = 0; k < n; k++) {
                bytes = bytes << 8 | text.charAt(i + k);
            }
            x.feed(bytes, n);
        }
    }

    /** A new tunnel with what a text tells. */
    static TunnelPeace tunnel(String text) {
        TunnelPeace x = new TunnelPeace();
        that("'" + text + "' is a text", read(x, text) > 0);
        return x;
    }

    /** A sheet gets numbers. */
    static void tell(TunnelPeace x, int s, int bits, int... numbers) {
        x.sheet(s, bits, numbers.length);
        for (int i = 0; i < numbers.length; i++) {
            x.write(s, i, numbers[i]);
        }
    }

    /** Ends the program with 1 if an answer was wrong. */
    static void end(String test) {
        endSentence();
        System.out.println(test + ": " + checks + " checks, " + wrong + " wrong");
        if (wrong != 0) {
            System.exit(1);
        }
    }
}
