/** Texts (Terms), and promises 27 to 29: the tape and its texts. */
final class TextTest {
    private static final String[] KINDS = {"walker", "merchant", "soldier", "general", "marshal", "child", "bride"};
    private static final String[] OPTIONS = {"at", "season", "bags", "met"};
    private static final int[] MOST = {15, 99, 9, 9999};

    public static void main(String[] args) {
        tape();
        longestTokens();
        words();
        numbers();
        blanks();
        items();
        people();
        options();
        orderOfOptions();
        places();
        guns();
        faultOfNumbers();
        faultOfWords();
        faultOfBytes();
        ninth();
        tooEarly();
        feed();
        feedFindings();
        wipe();
        text();
        textWithFault();
        Check.end("TextTest");
    }

    /** What rich() makes, with so many bytes on the tape. */
    static void fill(TunnelPeace x, int bytes) {
        Twins.rich(x);
        x.wipe();
        Check.feed(x, "guns1;".repeat(20).substring(0, bytes));
    }

    private static void dueItems(String text, int items) {
        TunnelPeace x = new TunnelPeace();
        Check.due("'" + text + "'", Check.read(x, text), items);
        Check.due("'" + text + "': bytes then", x.count(5), 0);
        Check.due("'" + text + "': findings", x.status(-1), 0);
    }

    private static void dueFault(String text, int fault) {
        TunnelPeace x = new TunnelPeace();
        Check.due("'" + text + "'", Check.read(x, text), -1 - fault);
        Check.due("'" + text + "': findings", x.status(-1), 0);
        Twins.dueAlike("behind '" + text + "'", x, new TunnelPeace());
    }

    private static void dueGuns(String text, int guns) {
        TunnelPeace x = new TunnelPeace();
        Check.that("'" + text + "' is a text", Check.read(x, text) > 0);
        Check.due("'" + text + "': guns", x.now(1), guns);
    }

    private static void tape() {
        Check.sentence("TEXT", "A TEXT is read from THE TAPE (bytes, at most 120).");
        dueItems("guns1;".repeat(19) + "guns7 ", 20);
        dueItems(" ".repeat(115) + "guns7", 1);
        dueItems("guns" + " ".repeat(115) + "7", 1);
        dueGuns("guns" + " ".repeat(115) + "7", 7);
        dueGuns("guns " + "0".repeat(113) + "42", 42);
        TunnelPeace x = new TunnelPeace();
        fill(x, 120);
        Check.due("full", x.feed('x', 1), Check.FULL);
        Check.due("120 bytes", x.count(5), 120);
    }

    private static void longestTokens() {
        Check.sentence("TEXT", "TOKENS, each as long as can be:");
        dueGuns("guns12", 12);
        dueGuns("guns 99", 99);
        dueFault("guns 999", 5);
        dueFault("walker 10", 7);
        dueFault("walker 01;walker 00;walker 02", 27);
        dueFault("place 012", 6);
        dueFault("placeguns 1 1", 0);
        dueFault("walkerat 1", 0);
        dueFault("gunsguns 1", 0);
        dueItems("walker1at2season3bags4met5;place1 2;guns3", 3);
    }

    private static void words() {
        Check.sentence("TEXT", "WORDS (letters a to z),");
        for (int c = 0; c < 256; c++) {
            String text = "guns" + (char) c + " 5";
            if (c == ' ') {
                dueItems(text, 1);
            } else if (c >= 'a' && c <= 'z') {
                dueFault(text, 0);
            } else {
                dueFault(text, c >= '0' && c <= '9' ? 6 : 4);
            }
        }
        dueFault("Guns 5", 0);
        dueFault("gunS 5", 0);
        dueFault("GUNS 5", 0);
    }

    private static void numbers() {
        Check.sentence("TEXT", "NUMBERS (digits, 9999 at most),");
        for (int c = 0; c < 256; c++) {
            String text = "guns 5" + (char) c;
            if (c == ' ' || c >= '0' && c <= '9') {
                dueGuns(text, c == ' ' ? 5 : 50 + c - '0');
            } else {
                dueFault(text, c == ';' ? 7 : 6);
            }
        }
        dueItems("child 0 met 9999", 1);
        dueItems("child 0 met 0009999", 1);
        for (String number : new String[] {"10000", "010000", "65536", "99999", "2147483647", "2147483648", "4294967295",
            "4294967296", "4294967297", "8589934592", "18446744073709551616", "18446744073709551617", "1" + "0".repeat(60)}) {
            dueFault("child 0 met " + number, 12);
            dueFault("child " + number, 6);
            dueFault("guns " + number, 5);
        }
        dueGuns("guns 0", 0);
        dueGuns("guns 00", 0);
        dueGuns("guns 007", 7);
    }

    private static void blanks() {
        Check.sentence("TEXT", "SIGN ; ; blanks may stand between.");
        dueItems("  guns  5  ", 1);
        dueItems(" guns 5 ; guns 6 ", 2);
        dueItems("guns5;guns6", 2);
        dueItems("   walker   1   at   2   season   3   bags   4   met   5   ", 1);
        dueFault("gu ns 5", 0);
        dueFault("guns 5 5", 7);
        dueFault("guns\t5", 4);
        dueFault("guns\n5", 4);
        dueFault("guns\r5", 4);
        dueFault("guns" + (char) 0 + "5", 4);
        dueFault("guns" + (char) 160 + "5", 4);
    }

    private static void items() {
        Check.sentence("TEXT", "TEXT: ITEM { ; ITEM }.");
        dueItems("guns 1", 1);
        dueItems("guns 1;guns 2 ; child 0", 3);
        dueFault("", 0);
        dueFault("   ", 3);
        dueFault(";", 0);
        dueFault(" ;", 1);
        dueFault(";guns 1", 0);
        dueFault("guns 1;", 7);
        dueFault("guns 1; ", 8);
        dueFault("guns 1;;guns 2", 7);
        dueFault("guns 1 guns 2", 7);
        dueFault("walker 0 walker 0", 9);
        dueFault("guns 1:guns 2", 6);
    }

    private static void dueOf(TunnelPeace x, int person, int... due) {
        for (int what = 0; what < due.length; what++) {
            Check.due("of " + person + " " + what, x.of(person, what), due[what]);
        }
    }

    private static void people() {
        Check.sentence("TEXT", "ITEM: walker, merchant, soldier, general, marshal, child or bride, a NUMBER (its SIDE, 0 or 1),");
        for (int kind = 0; kind < 7; kind++) {
            for (int side = 0; side < 2; side++) {
                dueOf(Check.tunnel(KINDS[kind] + " " + side), 0, kind, side, 15 * side, 30, 0, 0);
            }
            int at = KINDS[kind].length();
            dueFault(KINDS[kind] + " 2", at + 1);
            dueFault(KINDS[kind] + " x", at + 1);
            dueFault(KINDS[kind] + " ;", at + 1);
            dueFault(KINDS[kind] + " -1", at + 1);
            dueFault(KINDS[kind] + " 9999", at + 1);
            dueFault(KINDS[kind] + "s 0", 0);
            dueFault(KINDS[kind].substring(1) + " 0", 0);
            dueFault(KINDS[kind].substring(0, at - 1) + " 0", 0);
        }
    }

    /** Every choice of the four, with the least and with the greatest number. */
    private static void options() {
        Check.sentence("TEXT", "perhaps at and a NUMBER (a CELL), perhaps season and a NUMBER (0 to 99), perhaps bags and a NUMBER (0 to 9),"
                + " perhaps met and a NUMBER (0 to 9999): a new one;");
        for (int set = 0; set < 16; set++) {
            for (int greatest = 0; greatest < 2; greatest++) {
                StringBuilder text = new StringBuilder("child 1");
                int[] due = {5, 1, 15, 30, 0, 0};
                for (int i = 0; i < 4; i++) {
                    if ((set >> i & 1) == 1) {
                        text.append(' ').append(OPTIONS[i]).append(' ').append(greatest * MOST[i]);
                        due[2 + i] = greatest * MOST[i];
                    }
                }
                dueOf(Check.tunnel(text.toString()), 0, due);
            }
        }
        for (int i = 0; i < 4; i++) {
            String text = "child 1 " + OPTIONS[i];
            dueFault(text + " " + (MOST[i] + 1), text.length() + 1);
            dueFault(text + " x", text.length() + 1);
            dueFault(text + " ;", text.length() + 1);
            dueFault(text + " -1", text.length() + 1);
            dueFault(text, text.length());
            dueFault(text + " 1 1", text.length() + 3);
        }
    }

    private static void orderOfOptions() {
        Check.sentence("TEXT", "perhaps at and a NUMBER (a CELL), perhaps season and a NUMBER (0 to 99), perhaps bags and a NUMBER (0 to 9),"
                + " perhaps met and a NUMBER (0 to 9999)");
        for (int a = 0; a < 4; a++) {
            for (int b = 0; b < 4; b++) {
                String first = "child 1 " + OPTIONS[a] + " 1 ";
                if (a < b) {
                    dueItems(first + OPTIONS[b] + " 1", 1);
                } else {
                    dueFault(first + OPTIONS[b] + " 1", first.length());
                }
            }
        }
        dueFault("child at 3 0", 6);
        for (String option : OPTIONS) {
            dueFault(option + " 3", 0);
            dueFault("guns 3 " + option + " 3", 7);
            dueFault("place 0 3 " + option + " 3", 10);
            dueFault("child 0 " + option + "s 3", 8);
            dueFault("child 0 " + option.substring(1) + " 3", 8);
        }
    }

    private static void places() {
        Check.sentence("TEXT", "place, two NUMBERS (a place of THE LIST, 0 to 5, a CELL);");
        for (int i = 0; i < 6; i++) {
            for (int cell : new int[] {0, 3, 15}) {
                TunnelPeace x = Check.tunnel("place " + i + " " + cell);
                for (int k = 0; k < 6; k++) {
                    Check.due("listed " + k, x.listed(k), k == i ? cell : 7);
                }
            }
        }
        dueFault("place 6 0", 6);
        dueFault("place 5 16", 8);
        dueFault("place 0 16", 8);
        dueFault("place 9999 0", 6);
        dueFault("place 0 9999", 8);
        dueFault("place", 5);
        dueFault("place 0", 7);
        dueFault("place 0;", 7);
        dueFault("place 0 x", 8);
        dueFault("place x 0", 6);
        dueFault("place 0 1 2", 10);
        dueFault("places 0 1", 0);
    }

    private static void guns() {
        Check.sentence("TEXT", "guns, a NUMBER (0 to 99).");
        for (int guns : new int[] {0, 1, 50, 98, 99}) {
            dueGuns("guns " + guns, guns);
        }
        dueFault("guns 100", 5);
        dueFault("guns 9999", 5);
        dueFault("guns", 4);
        dueFault("guns ;", 5);
        dueFault("guns x", 5);
        dueFault("guns -1", 5);
        dueFault("gun 3", 0);
    }

    private static void faultOfNumbers() {
        Check.sentence("TEXT", "FAULT: the place (from 0) of the first byte of the first TOKEN that can't stand there (a NUMBER that isn't as told,");
        dueFault("0", 0);
        dueFault("1", 0);
        dueFault("7", 0);
        dueFault("  1", 2);
        dueFault("1 at 3", 0);
        dueFault("guns 3;1", 7);
        dueFault("guns 100;guns 100", 5);
        dueFault("guns 3;walker 2;x", 14);
        dueFault("walker 0 at 16 season 100", 12);
        dueFault("walker 0 season 1000", 16);
        dueFault("walker 0 0", 9);
        Check.sentence("TEXT", "the first TOKEN that can't stand there");
        dueFault("walker 0 at 15 season 100 bags 10", 22);
        dueFault("guns 1;guns 2;guns 3;guns 100;x", 26);
    }

    private static void faultOfWords() {
        Check.sentence("TEXT", "another WORD,");
        dueFault("lane 3", 0);
        dueFault("talker 0", 0);
        dueFault("x", 0);
        dueFault("guns 3;lane", 7);
        dueFault("guns 3x", 6);
        dueFault("walker 0 lane", 9);
        dueFault("walker 0 guns 3", 9);
        dueFault("walker walker", 7);
        dueFault("guns guns", 5);
        dueFault("place place", 6);
        dueFault("place 0 at 3", 8);
    }

    private static void faultOfBytes() {
        Check.sentence("TEXT", "a byte that begins no TOKEN,");
        for (int c = 0; c < 256; c++) {
            boolean letter = c >= 'a' && c <= 'z';
            boolean digit = c >= '0' && c <= '9';
            if (!letter && !digit && c != ' ' && c != ';') {
                dueFault("" + (char) c, 0);
                dueFault(" " + (char) c + "guns 3", 1);
                dueFault("walker 0" + (char) c, 8);
                dueFault("walker 0 at " + (char) c + "3", 12);
                dueFault("guns 3; " + (char) c, 8);
            }
        }
    }

    private static void ninth() {
        Check.sentence("TEXT", "the WORD of a 9th one: its own),");
        String six = "child 0;child 0;child 0;child 0;child 0;child 0";
        TunnelPeace x = Check.tunnel(six);
        Check.due("a ninth", Check.read(x, "guns 1;child 1;child 1; child 7"), -1 - 24);
        Check.due("still six", x.count(1), 6);
        Check.due("guns", x.now(1), 50);
        Check.due("a fault ahead of the ninth", Check.read(x, "child 1;child 2;child 1"), -1 - 14);
        Check.due("eight", Check.read(x, "child 1;child 1;guns 3"), 3);
        for (int kind = 0; kind < 7; kind++) {
            Check.due("full", Check.read(x, "guns 4; " + KINDS[kind] + " 0"), -1 - 8);
            Check.due("full, and it ends", Check.read(x, KINDS[kind]), -1);
        }
        Check.due("full, and no word", Check.read(x, " 1"), -2);
        Check.due("eight yet", x.count(1), 8);
        Check.due("places and guns yet", Check.read(x, "guns 9;place 1 1"), 2);
        Check.due("no finding", x.status(-1), 0);
        TunnelPeace seven = Check.tunnel(six);
        seven.person(0, 0);
        Check.due("the eighth", Check.read(seven, "child 1"), 1);
        TunnelPeace all = new TunnelPeace();
        String eight = "child 0;child 0;child 0;child 0;child 0;child 0;child 0;child 0";
        Check.due("nine in one text", Check.read(all, eight + ";child 0"), -1 - 64);
        Check.due("none of them", all.count(1), 0);
        Check.due("eight in one text", Check.read(all, eight), 8);
    }

    private static void tooEarly() {
        Check.sentence("TEXT", "or how many bytes there are if it ends too early.");
        dueFault("", 0);
        dueFault(" ", 1);
        dueFault("walker", 6);
        dueFault("walker  ", 8);
        dueFault("walker 0 at", 11);
        dueFault("walker 0 at ", 12);
        dueFault("walker 0 season", 15);
        dueFault("walker 0 bags", 13);
        dueFault("walker 0 met", 12);
        dueFault("walker 0;", 9);
        dueFault("guns", 4);
        dueFault("place 3", 7);
        dueFault(" ".repeat(120), 120);
        dueFault("guns1;".repeat(20), 120);
        dueFault("guns1;".repeat(19) + "x     ", 114);
    }

    private static void feed() {
        Check.sentence("27", "THE TAPE gets the n lowest bytes of a number behind it, the highest of these first (n 1 to 4): how many it has.");
        TunnelPeace x = new TunnelPeace();
        Check.due("one of four", x.feed('a' << 24 | 'b' << 16 | 'c' << 8 | 'g', 1), 1);
        Check.due("two of four", x.feed('a' << 24 | 'b' << 16 | 'u' << 8 | 'n', 2), 3);
        Check.due("three of four", x.feed('a' << 24 | 's' << 16 | ' ' << 8 | '4', 3), 6);
        Check.due("four", x.feed(';' << 24 | 'g' << 16 | 'u' << 8 | 'n', 4), 10);
        Check.due("three", x.feed('s' << 16 | ' ' << 8 | '5', 3), 13);
        Check.due("text", x.text(), 2);
        Check.due("guns", x.now(1), 5);
        for (int i = 1; i <= 30; i++) {
            Check.due("four with a sign", x.feed(-1, 4), 4 * i);
        }
        Check.due("wipe", x.wipe(), 120);
        for (int i = 1; i <= 120; i++) {
            Check.due("one", x.feed(' ', 1), i);
        }
        Check.due("blanks alone", x.text(), -121);
    }

    private static void feedFindings() {
        Check.sentence("27", "BEYOND: n.");
        Twins.range("feed", 1, 1, 4, 'x', 0);
        Twins.rangeFrom(x -> fill(x, 120), "feed", 1, 1, 4, 'x', 0);
        Check.sentence("27", "FULL.");
        int[][] full = {{120, 1}, {120, 4}, {119, 2}, {119, 4}, {118, 3}, {118, 4}, {117, 4}};
        for (int[] row : full) {
            Twins.refusedFrom(x -> fill(x, row[0]), Check.FULL, "feed", 'x', row[1]);
        }
        int[][] room = {{119, 1}, {118, 2}, {117, 3}, {116, 4}};
        for (int[] row : room) {
            TunnelPeace x = new TunnelPeace();
            fill(x, row[0]);
            Check.due("just enough room for " + row[1], x.feed(0, row[1]), 120);
        }
    }

    private static void wipe() {
        Check.sentence("28", "THE TAPE is empty: how many it had.");
        TunnelPeace x = new TunnelPeace();
        Check.due("empty", x.wipe(), 0);
        Check.feed(x, "guns 3");
        Check.due("had", x.wipe(), 6);
        Check.due("empty then", x.count(5), 0);
        Check.due("no text", x.text(), -1);
        Check.due("nothing told", x.now(1), 50);
        fill(x, 120);
        Check.due("full", x.wipe(), 120);
        Check.due("again", x.wipe(), 0);
        Check.due("room again", x.feed(0, 4), 4);
        TunnelPeace rich = new TunnelPeace();
        TunnelPeace other = new TunnelPeace();
        Twins.rich(rich);
        Twins.rich(other);
        rich.wipe();
        Check.feed(rich, "guns 3");
        Twins.dueAlike("wiped and fed again", rich, other);
    }

    private static void text() {
        Check.sentence("29", "THE TAPE is a TEXT, and empty then; all that it tells is so, item by item: how many ITEMS.");
        TunnelPeace x = Check.tunnel("walker 0;merchant 1;soldier 0 at 3;general 1 season 4;marshal 0 bags 5");
        Check.due("more", Check.read(x, "child 1 met 6;bride 0 at 15 season 99 bags 9 met 9999;place 5 3;guns 8"), 4);
        dueOf(x, 0, 0, 0, 0, 30, 0, 0);
        dueOf(x, 1, 1, 1, 15, 30, 0, 0);
        dueOf(x, 2, 2, 0, 3, 30, 0, 0);
        dueOf(x, 3, 3, 1, 15, 4, 0, 0);
        dueOf(x, 4, 4, 0, 0, 30, 5, 0);
        dueOf(x, 5, 5, 1, 15, 30, 0, 6);
        dueOf(x, 6, 6, 0, 15, 99, 9, 9999);
        Check.due("listed", x.listed(5), 3);
        Check.due("guns", x.now(1), 8);
        Check.due("empty then", x.count(5), 0);
        Check.due("no text is there", x.text(), -1);
        Check.read(x, "guns 3;place 0 1;guns 4;place 0 2");
        Check.due("the last guns", x.now(1), 4);
        Check.due("the last place", x.listed(0), 2);
        TunnelPeace byText = new TunnelPeace();
        TunnelPeace byCalls = new TunnelPeace();
        Twins.rich(byText);
        Twins.rich(byCalls);
        byText.text();
        byText.feed(0, 1);
        byCalls.wipe();
        byCalls.guns(3);
        byCalls.feed(0, 1);
        Twins.dueAlike("only what it tells", byText, byCalls);
    }

    private static void textWithFault() {
        Check.sentence("29", "With a FAULT: -1 less the FAULT (nothing changes but that THE TAPE is empty; no finding).");
        for (String text : new String[] {"", "x", "guns 1;place 2 8;walker 1;x", "walker 0 at 3 met 4;guns 100", "place 0 1;"}) {
            TunnelPeace x = new TunnelPeace();
            TunnelPeace y = new TunnelPeace();
            Twins.rich(x);
            Twins.rich(y);
            x.wipe();
            Check.feed(x, text);
            Check.that("a fault", x.text() < 0);
            Check.due("bytes then", x.count(5), 0);
            Check.due("no finding", x.status(-1), y.status(-1));
            y.wipe();
            Twins.dueAlike("behind '" + text + "'", x, y);
        }
        TunnelPeace undone = new TunnelPeace();
        undone.image();
        Check.read(undone, "walker 0;guns 4");
        undone.undo();
        Check.due("a fault behind an undo", Check.read(undone, "walker 1;;"), -1 - 9);
        Check.due("nobody", undone.count(1), 0);
        Check.due("guns", undone.now(1), 50);
    }
}
