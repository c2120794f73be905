/** Promises 24 to 26: days by draws, odds and the seed. */
final class DrawsTest {
    public static void main(String[] args) {
        stroll();
        strollInOneGo();
        bags();
        strollEdges();
        odds();
        oddsEdges();
        seed();
        Check.end("DrawsTest");
    }

    private static int next(int z) {
        return z * 1103515245 + 12345;
    }

    /** A stroll is what place(), change() and go() do, told the draws. */
    private static void stroll() {
        String text = "walker 0;walker 1;child 0 at 6;soldier 1";
        for (int seed : new int[] {1, 0, -1, 77, Integer.MIN_VALUE}) {
            TunnelPeace x = Check.tunnel(text);
            TunnelPeace y = Check.tunnel(text);
            x.seed(seed);
            int z = seed;
            for (int i = 0; i < 12; i++) {
                z = next(z);
                y.place(i % 6, (z >>> 8) % 16);
                z = next(z);
                int person = (z >>> 8) % 8;
                if (person < 4) {
                    y.change(person, 4, Math.min(9, y.of(person, 4) + 1));
                }
                Check.due("24: guns", x.stroll(1), y.go(1));
                Check.due("24: z", x.count(6), z);
                Check.due("24: list", x.listed(i % 6), y.listed(i % 6));
                for (int k = 0; k < 16; k++) {
                    Check.due("24: of", x.of(k / 4, 2 + k % 4), y.of(k / 4, 2 + k % 4));
                }
            }
        }
        TunnelPeace first = new TunnelPeace();
        first.stroll(1);
        Check.due("24: the first draw is 4310654", first.listed(0), 14);
    }

    private static void strollInOneGo() {
        String text = "bride 0;walker 1;child 0 at 6;soldier 1";
        TunnelPeace x = Check.tunnel(text);
        TunnelPeace y = Check.tunnel(text);
        int guns = 0;
        for (int i = 0; i < 20; i++) {
            guns = x.stroll(1);
        }
        Check.due("24: twenty", y.stroll(20), guns);
        Check.due("24: day", y.now(0), 20);
        Check.due("24: z", y.count(6), x.count(6));
        Check.due("24: cells", y.now(5), x.now(5));
    }

    private static void bags() {
        TunnelPeace x = Check.tunnel("walker 0 at 5 bags 9");
        for (int i = 0; i < 4; i++) {
            x.stroll(20);
            x.change(0, 2, 5);
            x.change(0, 3, 99);
            Check.that("24: 9 bags at most", x.of(0, 4) <= 9);
        }
    }

    private static void strollEdges() {
        TunnelPeace x = new TunnelPeace();
        for (int n : new int[] {0, -1, 21, Integer.MIN_VALUE}) {
            Check.due("24: beyond", x.stroll(n), Check.BEYOND);
        }
        Check.due("24: no draw", x.count(6), 1);
    }

    private static void dueOdds(TunnelPeace x, int person, int n, long above, long below) {
        Check.due("25: above", x.odds(person, n, 0), above);
        Check.due("25: below", x.odds(person, n, 1), below);
    }

    private static void odds() {
        TunnelPeace x = Check.tunnel("walker 0 at 7;walker 1 at 3;walker 0 at 5");
        dueOdds(x, 0, 0, 1, 1);
        dueOdds(x, 0, 1, 1, 16);
        dueOdds(x, 0, 15, 1, 1152921504606846976L);
        dueOdds(x, 1, 1, 3, 16);
        dueOdds(x, 1, 2, 9, 256);
        dueOdds(x, 1, 15, 14348907, 1152921504606846976L);
        x.change(2, 2, 8);
        dueOdds(x, 1, 3, 1, 512);
        x.change(2, 2, 7);
        dueOdds(x, 1, 3, 1, 512);
        TunnelPeace alone = Check.tunnel("walker 0 at 7;walker 0 at 8");
        dueOdds(alone, 0, 0, 1, 1);
        dueOdds(alone, 0, 1, 0, 1);
        dueOdds(alone, 0, 15, 0, 1);
        TunnelPeace many = Check.tunnel("child 0;child 1 at 0;child 1 at 1;child 1 at 2;child 1 at 8;child 1 at 9");
        dueOdds(many, 0, 1, 3, 8);
        dueOdds(many, 0, 4, 81, 4096);
    }

    private static void oddsEdges() {
        TunnelPeace x = Check.tunnel("walker 0");
        int[][] wrong = {{-1, 1, 0}, {1, 1, 0}, {0, -1, 0}, {0, 16, 0}, {0, 1, -1}, {0, 1, 2}};
        for (int[] row : wrong) {
            Check.due("25: beyond", x.odds(row[0], row[1], row[2]), Check.BEYOND);
        }
        Check.due("25: counted", x.status(0), wrong.length);
        Check.due("25: no draw", x.count(6), 1);
    }

    private static void seed() {
        TunnelPeace x = new TunnelPeace();
        Check.due("26: first", x.seed(-1000001), 1);
        Check.due("26: was", x.seed(Integer.MAX_VALUE), -1000001);
        Check.due("26: is", x.count(6), Integer.MAX_VALUE);
        Check.due("26: no finding", x.status(-1), 0);
    }
}
