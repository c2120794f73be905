/** Compares answers with those that are due, and tells at the end how it went. */
final class Check {
    static final long BEYOND = -1000001;
    static final long FULL = -1000002;
    static final long KIND = -1000003;
    static final long NONE = -1000004;
    static final long STATE = -1000005;
    static final long MISSING = -1000006;
    static final long SIZE = -1000007;

    static final int WALKER = 0;
    static final int MERCHANT = 1;
    static final int SOLDIER = 2;
    static final int GENERAL = 3;
    static final int MARSHAL = 4;
    static final int CHILD = 5;
    static final int BRIDE = 6;

    private static int checks = 0;
    private static int wrong = 0;

    private Check() {
    }

    static void due(String call, long got, long want) {
        checks++;
        if (got != want) {
            wrong++;
            System.out.println(call + " answered " + got + ", due is " + want);
        }
    }

    static void that(String what, boolean holds) {
        due(what, holds ? 1 : 0, 1);
    }

    /** Feeds a text and reads it. */
    static int read(TunnelPeace x, String text) {
        feed(x, text);
        return x.text();
    }

    static void feed(TunnelPeace x, String text) {
        for (int i = 0; i < text.length(); i++) {
            x.feed(text.charAt(i), 1);
        }
    }

    /** A new tunnel with what a text tells. */
    static TunnelPeace tunnel(String text) {
        TunnelPeace x = new TunnelPeace();
        that("'" + text + "' is a text", read(x, text) > 0);
        return x;
    }

    /** Sheet 0 gets 8-bit numbers. */
    static void tell(TunnelPeace x, int... numbers) {
        x.sheet(0, 8, numbers.length);
        for (int i = 0; i < numbers.length; i++) {
            x.write(0, i, numbers[i]);
        }
    }

    /** Ends the program with 1 if an answer was wrong. */
    static void end(String test) {
        System.out.println(test + ": " + checks + " checks, " + wrong + " wrong");
        if (wrong != 0) {
            System.exit(1);
        }
    }
}
