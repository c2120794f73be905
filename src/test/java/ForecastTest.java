/** Promises 12 to 16: what will be. */
final class ForecastTest {
    private static final String WALKERS = "walker 0 at 7;walker 1 at 8";
    private static final String MARSHAL = "marshal 0 at 7;walker 1 at 8";
    private static final String LONG_WALKERS = "walker 0 at 7 season 99;walker 1 at 8 season 99";

    public static void main(String[] args) {
        ahead();
        aheadIsGo();
        aheadBeyond();
        noise();
        stills();
        meets();
        lapses();
        Check.end("ForecastTest");
    }

    /** Answers of ahead() for one and what, behind so many days each. */
    private static void dueAhead(String text, int what, int[][] due) {
        TunnelPeace x = Check.tunnel(text);
        for (int[] row : due) {
            Check.due(text + ": ahead(0, " + what + ", " + row[0] + ")", x.ahead(0, what, row[0]), row[1]);
        }
    }

    private static void ahead() {
        Check.sentence("12", "What 2, 3, 5, 7 (as in of()) of one behind n (0 to 100) DAYS.");
        dueAhead(WALKERS, 2, new int[][] {{0, 7}, {1, 7}, {30, 7}, {31, 4}, {32, 1}, {33, 0}, {100, 0}});
        dueAhead(LONG_WALKERS, 2, new int[][] {{98, 7}, {99, 7}, {100, 4}});
        dueAhead(WALKERS, 3, new int[][] {{0, 30}, {1, 29}, {29, 1}, {30, 0}, {31, 0}, {100, 0}});
        dueAhead(LONG_WALKERS, 3, new int[][] {{0, 99}, {98, 1}, {99, 0}, {100, 0}});
        dueAhead(WALKERS, 5, new int[][] {{0, 0}, {1, 1}, {10, 10}, {30, 30}, {31, 30}, {100, 30}});
        dueAhead("child 0 at 7;child 1 at 7 met 9950", 5, new int[][] {{0, 0}, {99, 99}, {100, 100}});
        dueAhead("child 0 at 7 met 9950;child 1 at 7", 5, new int[][] {{48, 9998}, {49, 9999}, {50, 9999}, {100, 9999}});
        dueAhead(MARSHAL, 7, new int[][] {{0, 0}, {1, 1}, {2, 0}, {3, 1}, {4, 0}, {5, 1}, {6, 1}, {7, 1}, {100, 1}});
        Twins.unchanged(6, "ahead", 0, 2, 0);
        Twins.unchanged(19, "ahead", 1, 3, 1);
        Twins.unchanged(0, "ahead", 3, 3, 100);
        Twins.unchanged(1, "ahead", 2, 7, 100);
    }

    private static void aheadIsGo() {
        Check.sentence("12", "What 2, 3, 5, 7 (as in of()) of one behind n (0 to 100) DAYS.");
        String text = "walker 0;child 1 at 9;soldier 1;general 0;place 2 3;place 4 12;bride 0 at 3 met 4";
        for (int n = 1; n <= 60; n++) {
            TunnelPeace x = Check.tunnel(text);
            TunnelPeace y = Check.tunnel(text);
            y.go(n);
            Check.due("guns behind " + n, x.noise(n), y.now(1));
            for (int i = 0; i < 5; i++) {
                for (int what : new int[] {2, 3, 5, 7}) {
                    Check.due(i + "'s " + what + " behind " + n, x.ahead(i, what, n), y.of(i, what));
                }
            }
        }
    }

    private static void aheadBeyond() {
        Check.sentence("12", "BEYOND.");
        for (int what : new int[] {-1, 0, 1, 4, 6, 8, 9, 10, Check.LEAST, Check.MOST}) {
            Twins.refused(Check.BEYOND, "ahead", 0, what, 1);
        }
        for (int what : new int[] {2, 3, 5, 7}) {
            Twins.range("ahead", 2, 0, 100, 0, what, 0);
        }
        Twins.range("ahead", 0, 0, 3, 0, 2, 1);
        Twins.refusedFrom(x -> { }, Check.BEYOND, "ahead", 0, 2, 0);
    }

    /** A child that is at the other one's lift on days 3, 4, 9, 10, ..: the guns are 99 on the days ahead of these. */
    private static TunnelPeace beaten() {
        return Check.tunnel("guns 99;child 0 at 14;walker 1 season 0;place 1 14;place 3 15;place 5 14");
    }

    private static void noise() {
        Check.sentence("13", "GUNS behind n (0 to 100) DAYS.");
        TunnelPeace x = Check.tunnel(MARSHAL);
        int[] due = {50, 44, 38, 32, 26, 20, 14, 8, 0, 0};
        for (int n = 0; n < due.length; n++) {
            Check.due("behind " + n, x.noise(n), due[n]);
        }
        int[][] far = {{0, 99}, {3, 99}, {4, 93}, {5, 87}, {6, 92}, {7, 97}, {8, 99}, {98, 99}, {99, 99}, {100, 93}};
        for (int[] row : far) {
            Check.due("beaten, behind " + row[0], beaten().noise(row[0]), row[1]);
        }
        Twins.unchanged(61, "noise", 0);
        Twins.unchanged(66, "noise", 1);
        Check.sentence("13", "BEYOND.");
        Twins.range("noise", 0, 0, 100, 0);
    }

    private static void stills() {
        Check.sentence("14", "Behind how many DAYS (0 to 200, the fewest) GUNS are v (0 to 99) or less.");
        TunnelPeace x = Check.tunnel(MARSHAL);
        int[][] due = {{99, 0}, {50, 0}, {49, 1}, {44, 1}, {43, 2}, {26, 4}, {25, 5}, {20, 5}, {8, 7}, {7, 8}, {0, 8}};
        for (int[] row : due) {
            Check.due("stills(" + row[0] + ")", x.stills(row[0]), row[1]);
        }
        Check.due("the fewest, though more later", beaten().stills(93), 4);
        Check.due("behind 200", slowlyStilled(93).stills(0), 200);
        Check.due("behind 200 just so", slowlyStilled(94).stills(6), 200);
        Twins.unchanged(0, "stills", 61);
        Twins.unchanged(0, "stills", 99);
        Check.sentence("14", "BEYOND.");
        Twins.range("stills", 0, 0, 99, 0);
        Check.sentence("14", "NONE.");
        Check.due("more each day", Check.tunnel(WALKERS).stills(49), Check.NONE);
        Check.due("behind 206", slowlyStilled(94).stills(5), Check.NONE);
        Twins.refusedFrom(y -> Check.read(y, WALKERS), Check.NONE, "stills", 0);
        Twins.refusedFrom(y -> { }, Check.NONE, "stills", 49);
    }

    /** Day 5; in six days a child meets a bride twice at her lift: 32 less, 30 more. */
    private static TunnelPeace slowlyStilled(int guns) {
        TunnelPeace x = Check.tunnel("child 0 at 14;bride 1 season 0;place 1 14;place 3 14;place 5 15");
        x.place(0, 14);
        x.go(5);
        x.guns(guns);
        return x;
    }

    private static void meets() {
        Check.sentence("15", "Behind how many DAYS (0 to 200, the fewest) MET of one is v (0 to 9999) or more.");
        TunnelPeace x = Check.tunnel(WALKERS);
        int[][] due = {{0, 0}, {1, 1}, {2, 2}, {29, 29}, {30, 30}};
        for (int[] row : due) {
            Check.due("meets(1, " + row[0] + ")", x.meets(1, row[0]), row[1]);
        }
        TunnelPeace far = Check.tunnel("child 0 at 7;child 1 at 7");
        Check.due("behind 199", far.meets(0, 199), 199);
        Check.due("behind 200", far.meets(0, 200), 200);
        far.change(0, 5, 9799);
        Check.due("9999 behind 200", far.meets(0, 9999), 200);
        far.change(0, 5, 9999);
        Check.due("9999 now", far.meets(0, 9999), 0);
        Check.due("two at a time", Check.tunnel("child 0 at 7;child 1 at 7;child 1 at 8").meets(0, 3), 2);
        Twins.unchanged(0, "meets", 0, 0);
        Twins.unchanged(0, "meets", 1, 7);
        Check.sentence("15", "BEYOND.");
        Twins.range("meets", 0, 0, 3, 0, 0);
        Twins.range("meets", 1, 0, 9999, 0, 0);
        Twins.refusedFrom(y -> { }, Check.BEYOND, "meets", 0, 0);
        Check.sentence("15", "NONE.");
        Check.due("31", x.meets(1, 31), Check.NONE);
        Check.due("most", x.meets(0, 9999), Check.NONE);
        Check.due("behind 201", Check.tunnel("child 0 at 7;child 1 at 7").meets(0, 201), Check.NONE);
        Check.due("9999 behind 201", Check.tunnel("child 0 at 7 met 9798;child 1 at 7").meets(0, 9999), Check.NONE);
        Twins.refused(Check.NONE, "meets", 0, 9999);
    }

    private static void lapses() {
        Check.sentence("16", "Behind how many DAYS (0 to 200, the fewest) nobody has a SEASON.");
        Check.due("nobody", new TunnelPeace().lapses(), 0);
        Check.due("now", Check.tunnel("walker 0 season 0;child 1 season 0").lapses(), 0);
        Check.due("one day", Check.tunnel("soldier 0 season 2").lapses(), 1);
        Check.due("two days", Check.tunnel("soldier 0 season 3;walker 0 season 0").lapses(), 2);
        Check.due("walkers", Check.tunnel(WALKERS).lapses(), 30);
        Check.due("the longest of two", Check.tunnel("soldier 0;walker 1 season 16").lapses(), 16);
        Check.due("the longest of two, too", Check.tunnel("soldier 0;walker 1 season 14").lapses(), 15);
        Check.due("longest", Check.tunnel("merchant 0 season 99").lapses(), 99);
        Check.due("a bride", Check.tunnel("bride 0 season 99").lapses(), 74);
        Twins.unchangedFrom(x -> Check.read(x, WALKERS), 30, "lapses");
        TunnelPeace later = Check.tunnel(WALKERS);
        Check.due("asked once", later.lapses(), 30);
        Check.due("asked twice", later.lapses(), 30);
        later.go(4);
        Check.due("four days later", later.lapses(), 26);
        later.change(1, 3, 99);
        Check.due("with a longer one", later.lapses(), 99);
        Check.sentence("16", "NONE.");
        Check.due("a child", Check.tunnel("walker 0;child 1 season 1").lapses(), Check.NONE);
        Twins.refused(Check.NONE, "lapses");
    }
}
