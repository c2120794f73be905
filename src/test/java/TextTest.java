/** Promises 27 to 29: the tape and its texts. */
final class TextTest {
    public static void main(String[] args) {
        feed();
        wipe();
        good();
        whatItTells();
        faults();
        ninth();
        faultsChangeNothing();
        Check.end("TextTest");
    }

    private static void feed() {
        TunnelPeace x = new TunnelPeace();
        for (int n : new int[] {0, -1, 5, Integer.MIN_VALUE}) {
            Check.due("27: beyond", x.feed(1, n), Check.BEYOND);
        }
        Check.due("27: three of four", x.feed('x' << 24 | 'g' << 16 | 'u' << 8 | 'n', 3), 3);
        Check.due("27: two", x.feed('s' << 8 | '4', 2), 5);
        Check.due("27: text", x.text(), 1);
        Check.due("27: guns", x.now(1), 4);
        for (int i = 1; i <= 29; i++) {
            Check.due("27: four", x.feed(-1, 4), 4 * i);
        }
        Check.due("27: 118", x.feed(-1, 2), 118);
        Check.due("27: full", x.feed(-1, 3), Check.FULL);
        Check.due("27: beyond ahead of full", x.feed(-1, 5), Check.BEYOND);
        Check.due("27: 120", x.feed(-1, 2), 120);
        Check.due("27: full of 120", x.feed(-1, 1), Check.FULL);
        Check.due("27: still 120", x.count(5), 120);
    }

    private static void wipe() {
        TunnelPeace x = new TunnelPeace();
        Check.due("28: empty", x.wipe(), 0);
        Check.feed(x, "guns 3");
        Check.due("28: had", x.wipe(), 6);
        Check.due("28: empty then", x.count(5), 0);
        Check.due("28: no text", x.text(), -1);
        Check.due("28: nothing told", x.now(1), 50);
    }

    private static void good() {
        String[] texts = {"guns 0", "guns 99", "  guns  5  ", "guns5", "guns 00000000000000000000099",
            "place 0 0", "place 5 15", "place5 015", "walker 0", "merchant 1", "soldier0", "general 1", "marshal 0",
            "child 1", "bride 0", "bride 0at15season99bags9met9999", "bride 0 at 0 met 0", "walker 1 season 0 met 3",
            "walker 1 bags 3", "walker 1 at 3 bags 3"};
        for (String text : texts) {
            TunnelPeace x = new TunnelPeace();
            Check.due("29: '" + text + "'", Check.read(x, text), 1);
            Check.due("29: empty then", x.count(5), 0);
            Check.due("29: no finding", x.status(-1), 0);
        }
        Check.due("29: three", Check.read(new TunnelPeace(), "guns 1;guns 2 ; child 0"), 3);
        Check.due("29: twenty", Check.read(new TunnelPeace(), "guns1;".repeat(19) + "guns7 "), 20);
    }

    private static void dueOf(TunnelPeace x, int person, int... due) {
        for (int what = 0; what < due.length; what++) {
            Check.due("29: of " + person + " " + what, x.of(person, what), due[what]);
        }
    }

    private static void whatItTells() {
        TunnelPeace x = Check.tunnel("walker 0;merchant 1;soldier 0 at 3;general 1 season 4;marshal 0 bags 5");
        Check.due("29: more", Check.read(x, "child 1 met 6;bride 0 at 15 season 99 bags 9 met 9999;place 5 3;guns 8"), 4);
        dueOf(x, 0, 0, 0, 0, 30, 0, 0);
        dueOf(x, 1, 1, 1, 15, 30, 0, 0);
        dueOf(x, 2, 2, 0, 3, 30, 0, 0);
        dueOf(x, 3, 3, 1, 15, 4, 0, 0);
        dueOf(x, 4, 4, 0, 0, 30, 5, 0);
        dueOf(x, 5, 5, 1, 15, 30, 0, 6);
        dueOf(x, 6, 6, 0, 15, 99, 9, 9999);
        Check.due("29: listed", x.listed(5), 3);
        Check.due("29: guns", x.now(1), 8);
        Check.read(x, "guns 3;place 0 1;guns 4;place 0 2");
        Check.due("29: the last guns", x.now(1), 4);
        Check.due("29: the last place", x.listed(0), 2);
    }

    private static void dueFault(String text, int fault) {
        TunnelPeace x = new TunnelPeace();
        Check.due("29: '" + text + "'", Check.read(x, text), -1 - fault);
        Check.due("29: empty then", x.count(5), 0);
        Check.due("29: no finding", x.status(-1), 0);
        Check.due("29: nobody", x.count(1), 0);
        Check.due("29: guns", x.now(1), 50);
    }

    private static void faults() {
        dueFault("", 0);
        dueFault("   ", 3);
        dueFault(";", 0);
        dueFault(" ;", 1);
        dueFault("7", 0);
        dueFault("lane 3", 0);
        dueFault("walkers 0", 0);
        dueFault("walkerz 0", 0);
        dueFault("walkera 0", 0);
        dueFault("talker 0", 0);
        dueFault("Walker 0", 0);
        dueFault("walker", 6);
        dueFault("walker  ", 8);
        dueFault("walker 2", 7);
        dueFault("walker x", 7);
        dueFault("walker ;", 7);
        dueFault("walker at 3", 7);
        dueFault("walker 0 at", 11);
        dueFault("walker 0 at 16", 12);
        dueFault("walker 0 at x", 12);
        dueFault("walker 0 season 100", 16);
        dueFault("walker 0 bags 10", 14);
        dueFault("walker 0 met 10000", 13);
        dueFault("walker 0 met 99999999999999999999", 13);
        dueFault("walker 0 season 1 at 3", 18);
        dueFault("walker 0 bags 1 season 3", 16);
        dueFault("walker 0 met 1 bags 3", 15);
        dueFault("walker 0 at 1 at 1", 14);
        dueFault("walker 0 0", 9);
        dueFault("walker 0 walker 0", 9);
        dueFault("walker 0;", 9);
        dueFault("walker 0; ", 10);
        dueFault("walker 0;;walker 0", 9);
        dueFault("guns 3;walker 0;lane", 16);
        dueFault("walker 0,", 8);
        dueFault("walker 0\t", 8);
        dueFault("walker\n0", 6);
        dueFault("walker -0", 7);
        dueFault("walker " + (char) 233, 7);
        dueFault("walk" + (char) 0, 0);
        dueFault("place", 5);
        dueFault("place 6 0", 6);
        dueFault("place 0", 7);
        dueFault("place 0 16", 8);
        dueFault("place 0;", 7);
        dueFault("place 0 1 2", 10);
        dueFault("guns", 4);
        dueFault("guns 100", 5);
        dueFault("guns 3 3", 7);
        dueFault("guns 3x", 6);
        dueFault("at 3", 0);
        dueFault("season 3", 0);
    }

    private static void ninth() {
        String six = "child 0;child 0;child 0;child 0;child 0;child 0";
        TunnelPeace x = Check.tunnel(six);
        Check.due("29: a ninth", Check.read(x, "guns 1;child 1;child 1; child 7"), -1 - 24);
        Check.due("29: still six", x.count(1), 6);
        Check.due("29: guns", x.now(1), 50);
        Check.due("29: eight", Check.read(x, "child 1;child 1;guns 3"), 3);
        Check.due("29: full", Check.read(x, "child"), -1);
        Check.due("29: full, and no word", Check.read(x, "1"), -1);
        Check.due("29: guns yet", Check.read(x, "guns 9"), 1);
        Check.due("29: no finding", x.status(-1), 0);
    }

    private static void faultsChangeNothing() {
        TunnelPeace x = Check.tunnel("walker 0 at 4;place 2 3");
        x.hold(4, 0);
        x.seed(9);
        Check.read(x, "place 2 8;guns 1;walker 1;x");
        Check.due("29: place", x.listed(2), 3);
        Check.due("29: guns", x.now(1), 50);
        Check.due("29: people", x.count(1), 1);
        Check.due("29: spots", x.count(7), 1);
        Check.due("29: z", x.count(6), 9);
        Check.read(x, "guns 1");
        Check.due("29: spots behind a text", x.as(4, 0), 0);
        Check.due("29: z behind a text", x.count(6), 9);
    }
}
