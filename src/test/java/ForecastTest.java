/** Promises 12 to 16: what will be. */
final class ForecastTest {
    private static final String WALKERS = "walker 0 at 7;walker 1 at 8";
    private static final String MARSHAL = "marshal 0 at 7;walker 1 at 8";

    public static void main(String[] args) {
        ahead();
        aheadCrosses();
        aheadIsGo();
        noise();
        stills();
        meets();
        lapses();
        nothingChanges();
        Check.end("ForecastTest");
    }

    private static void ahead() {
        TunnelPeace x = Check.tunnel(WALKERS);
        Check.due("12: cell now", x.ahead(0, 2, 0), 7);
        Check.due("12: cell behind 30", x.ahead(0, 2, 30), 7);
        Check.due("12: cell behind 31", x.ahead(0, 2, 31), 4);
        Check.due("12: cell behind 100", x.ahead(1, 2, 100), 15);
        Check.due("12: season", x.ahead(0, 3, 10), 20);
        Check.due("12: season's end", x.ahead(0, 3, 31), 0);
        Check.due("12: met", x.ahead(0, 5, 10), 10);
        Check.due("12: most met", x.ahead(0, 5, 100), 30);
        for (int what : new int[] {-1, 0, 1, 4, 6, 8, 9, 10}) {
            Check.due("12: what " + what, x.ahead(0, what, 1), Check.BEYOND);
        }
        Check.due("12: n below", x.ahead(0, 2, -1), Check.BEYOND);
        Check.due("12: n above", x.ahead(0, 2, 101), Check.BEYOND);
        Check.due("12: nobody", x.ahead(2, 2, 1), Check.BEYOND);
        Check.due("12: below nobody", x.ahead(-1, 2, 1), Check.BEYOND);
    }

    private static void aheadCrosses() {
        TunnelPeace x = Check.tunnel(MARSHAL);
        int[] due = {0, 1, 0, 1, 0, 1, 1, 1};
        for (int n = 0; n < due.length; n++) {
            Check.due("12: crosses behind " + n, x.ahead(0, 7, n), due[n]);
        }
    }

    private static void aheadIsGo() {
        String text = "walker 0;child 1 at 9;soldier 1;general 0;place 2 3;place 4 12;bride 0 at 3 met 4";
        for (int n = 1; n <= 60; n++) {
            TunnelPeace x = Check.tunnel(text);
            TunnelPeace y = Check.tunnel(text);
            y.go(n);
            Check.due("13: guns behind " + n, x.noise(n), y.now(1));
            for (int i = 0; i < 5; i++) {
                for (int what : new int[] {2, 3, 5, 7}) {
                    Check.due("12: " + i + "'s " + what + " behind " + n, x.ahead(i, what, n), y.of(i, what));
                }
            }
        }
    }

    private static void noise() {
        TunnelPeace x = Check.tunnel(MARSHAL);
        int[] due = {50, 44, 38, 32, 26, 20, 14, 8, 0, 0};
        for (int n = 0; n < due.length; n++) {
            Check.due("13: behind " + n, x.noise(n), due[n]);
        }
        Check.due("13: behind 100", Check.tunnel(WALKERS).noise(100), 99);
        Check.due("13: below", x.noise(-1), Check.BEYOND);
        Check.due("13: above", x.noise(101), Check.BEYOND);
    }

    private static void stills() {
        TunnelPeace x = Check.tunnel(MARSHAL);
        int[][] due = {{99, 0}, {50, 0}, {49, 1}, {26, 4}, {25, 5}, {20, 5}, {8, 7}, {7, 8}, {0, 8}};
        for (int[] row : due) {
            Check.due("14: " + row[0], x.stills(row[0]), row[1]);
        }
        Check.due("14: none", Check.tunnel(WALKERS).stills(49), Check.NONE);
        Check.due("14: behind 200", slowlyStilled(93).stills(0), 200);
        Check.due("14: behind 200 just so", slowlyStilled(94).stills(6), 200);
        Check.due("14: behind 206", slowlyStilled(94).stills(5), Check.NONE);
        Check.due("14: below", x.stills(-1), Check.BEYOND);
        Check.due("14: above", x.stills(100), Check.BEYOND);
    }

    /** Day 5; in six days a child meets a bride twice at her lift: 32 less, 30 more. */
    private static TunnelPeace slowlyStilled(int guns) {
        TunnelPeace x = Check.tunnel("child 0 at 14;bride 1 season 0;place 1 14;place 3 14;place 5 15");
        x.place(0, 14);
        x.go(5);
        x.guns(guns);
        return x;
    }

    private static void meets() {
        TunnelPeace x = Check.tunnel(WALKERS);
        Check.due("15: 0", x.meets(0, 0), 0);
        Check.due("15: 1", x.meets(0, 1), 1);
        Check.due("15: 30", x.meets(1, 30), 30);
        Check.due("15: 31", x.meets(1, 31), Check.NONE);
        Check.due("15: most", x.meets(0, 9999), Check.NONE);
        Check.due("15: v below", x.meets(0, -1), Check.BEYOND);
        Check.due("15: v above", x.meets(0, 10000), Check.BEYOND);
        Check.due("15: nobody", x.meets(2, 1), Check.BEYOND);
        Check.due("15: below nobody", x.meets(-1, 1), Check.BEYOND);
        TunnelPeace far = Check.tunnel("child 0 at 7;child 1 at 7");
        Check.due("15: behind 200", far.meets(0, 200), 200);
        Check.due("15: behind 201", far.meets(0, 201), Check.NONE);
        far.change(0, 5, 9800);
        Check.due("15: from 9800 on", far.meets(0, 9999), 199);
    }

    private static void lapses() {
        Check.due("16: nobody", new TunnelPeace().lapses(), 0);
        Check.due("16: now", Check.tunnel("walker 0 season 0;child 1 season 0").lapses(), 0);
        Check.due("16: walkers", Check.tunnel(WALKERS).lapses(), 30);
        Check.due("16: a soldier", Check.tunnel("soldier 0;walker 1 season 14").lapses(), 15);
        Check.due("16: longest", Check.tunnel("merchant 0 season 99").lapses(), 99);
        Check.due("16: a child", Check.tunnel("walker 0;child 1 season 1").lapses(), Check.NONE);
    }

    private static void nothingChanges() {
        TunnelPeace x = Check.tunnel(MARSHAL);
        x.ahead(0, 2, 50);
        x.noise(60);
        x.stills(0);
        x.meets(0, 9);
        x.lapses();
        Check.due("12: day", x.now(0), 0);
        Check.due("13: guns", x.now(1), 50);
        Check.due("15: met", x.now(2), 0);
        Check.due("16: season", x.of(0, 3), 30);
        Check.due("16: cell", x.of(0, 2), 7);
    }
}
