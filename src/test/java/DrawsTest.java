import java.math.BigInteger;

/** Draws (Terms), and promises 24 to 26: days by draws, odds and the seed. */
final class DrawsTest {
    public static void main(String[] args) {
        draws();
        stroll();
        strollInOneGo();
        bags();
        strollFindings();
        odds();
        oddsBeyond();
        seed();
        Check.end("DrawsTest");
    }

    private static int next(int z) {
        return z * 1103515245 + 12345;
    }

    private static void draws() {
        Check.sentence("DRAWS", "DRAWS: z is told (1 at first); each makes it z * 1103515245 + 12345 (an int), and gives z >>> 8.");
        Check.due("at first", new TunnelPeace().count(6), 1);
        for (int seed : new int[] {1, 0, -1, 2, -2, 77, Check.MOST, Check.LEAST}) {
            BigInteger z = wide(BigInteger.valueOf(seed));
            TunnelPeace x = new TunnelPeace();
            x.seed(seed);
            x.stroll(1);
            Check.due("the cell from " + seed, x.listed(0), z.shiftRight(8).intValue() % 16);
            Check.due("z from " + seed, x.count(6), wide(z).intValue());
        }
        TunnelPeace first = new TunnelPeace();
        first.stroll(1);
        Check.due("1103527590 gives 4310654", first.listed(0), 14);
        TunnelPeace negative = new TunnelPeace();
        negative.seed(-1);
        negative.stroll(1);
        Check.due("-1103502900 gives 12466657", negative.listed(0), 1);
    }

    /** The next z, worked out with whole numbers and cut to 32 bits, without a sign. */
    private static BigInteger wide(BigInteger z) {
        return z.multiply(BigInteger.valueOf(1103515245)).add(BigInteger.valueOf(12345)).mod(BigInteger.ONE.shiftLeft(32));
    }

    /** A stroll is what place(), change() and go() do, told the draws. */
    private static void stroll() {
        Check.sentence("24", "n times (1 to 20) two draws: THE LIST tells for this DAY the CELL of the first one's rest by 16;"
                + " the one of the second one's rest by 8, if there is one, has a BAG more (9 at most); then a DAY: GUNS then.");
        String text = "walker 0;walker 1;child 0 at 6;soldier 1";
        for (int seed : new int[] {1, 0, -1, 77, Check.LEAST, Check.MOST}) {
            TunnelPeace x = Check.tunnel(text);
            TunnelPeace y = Check.tunnel(text);
            x.seed(seed);
            int z = seed;
            for (int i = 0; i < 12; i++) {
                z = next(z);
                y.place(i % 6, (z >>> 8) % 16);
                z = next(z);
                int person = (z >>> 8) % 8;
                if (person < 4) {
                    y.change(person, 4, Math.min(9, y.of(person, 4) + 1));
                }
                Check.due("guns", x.stroll(1), y.go(1));
                Check.due("z", x.count(6), z);
            }
            y.seed(z);
            Twins.dueAlike("12 strolls from " + seed, x, y);
        }
    }

    private static void strollInOneGo() {
        Check.sentence("24", "n times (1 to 20)");
        for (int n : new int[] {1, 2, 19, 20}) {
            TunnelPeace once = new TunnelPeace();
            TunnelPeace oneByOne = new TunnelPeace();
            Twins.rich(once);
            Twins.rich(oneByOne);
            int guns = 0;
            for (int i = 0; i < n; i++) {
                guns = oneByOne.stroll(1);
            }
            Check.due("guns behind " + n, once.stroll(n), guns);
            Check.due("day behind " + n, once.now(0), 1 + n);
            Twins.dueAlike(n + " one by one", once, oneByOne);
        }
        TunnelPeace empty = new TunnelPeace();
        Check.due("nobody", empty.stroll(20), 99);
        int z = 1;
        for (int i = 0; i < 40; i++) {
            z = next(z);
        }
        Check.due("forty draws", empty.count(6), z);
    }

    /** A seed with which the second draw is for a given one, and the first one for a given cell. */
    private static int seedFor(int cell, int person) {
        int seed = 0;
        while ((next(seed) >>> 8) % 16 != cell || (next(next(seed)) >>> 8) % 8 != person) {
            seed++;
        }
        return seed;
    }

    private static void bags() {
        Check.sentence("24", "the one of the second one's rest by 8, if there is one, has a BAG more (9 at most);");
        int[][] due = {{0, 1}, {1, 2}, {8, 9}, {9, 9}};
        for (int[] row : due) {
            for (int person = 0; person < 8; person++) {
                TunnelPeace x = new TunnelPeace();
                for (int i = 0; i < 7; i++) {
                    x.person(0, 0);
                    x.change(i, 2, 5);
                    x.change(i, 4, row[0]);
                }
                x.seed(seedFor(5, person));
                x.stroll(1);
                for (int i = 0; i < 7; i++) {
                    Check.due("bags of " + i + ", the draw for " + person, x.of(i, 4), i == person ? row[1] : row[0]);
                }
            }
        }
        Check.sentence("24", "then a DAY: GUNS then.");
        TunnelPeace slow = Check.tunnel("walker 0 at 4");
        slow.seed(seedFor(7, 0));
        slow.stroll(1);
        Check.due("the bag is carried on this day", slow.of(0, 2), 6);
        TunnelPeace lift = Check.tunnel("walker 0");
        lift.seed(seedFor(0, 0));
        lift.stroll(1);
        Check.due("the bag is put down at the lift", lift.of(0, 4), 0);
    }

    private static void strollFindings() {
        Check.sentence("24", "BEYOND.");
        Twins.range("stroll", 0, 1, 20, 0);
        Twins.refused(Check.BEYOND, "stroll", -20);
        Check.sentence("24", "STATE: DAY would be above 99999.");
        TunnelPeace x = DaysTest.onDay(99980);
        Check.due("20 days are too many", x.stroll(20), Check.STATE);
        Check.due("BEYOND is asked first", x.stroll(21), Check.BEYOND);
        Check.due("no draw", x.count(6), 1);
        Check.due("no day", x.now(0), 99980);
        Check.due("19 days are not", x.stroll(19), 99);
        Check.due("day", x.now(0), 99999);
        Twins.refusedFrom(DaysTest::toLastDay, Check.STATE, "stroll", 1);
        Twins.refusedFrom(DaysTest::toLastDay, Check.BEYOND, "stroll", 0);
    }

    private static void dueOdds(TunnelPeace x, int person, int n, long above, long below) {
        Check.due("above", x.odds(person, n, 0), above);
        Check.due("below", x.odds(person, n, 1), below);
    }

    private static void odds() {
        Check.sentence("25", "The odds that at n (0 to 15) CELLS, each the rest by 16 of a draw, one would always meet somebody,"
                + " all others where they are now: a fraction in lowest terms: above (what 0), below the line (1).");
        TunnelPeace x = Check.tunnel("walker 0 at 7;walker 1 at 3;walker 0 at 5");
        dueOdds(x, 0, 0, 1, 1);
        dueOdds(x, 0, 1, 1, 16);
        dueOdds(x, 0, 15, 1, 1152921504606846976L);
        dueOdds(x, 1, 0, 1, 1);
        dueOdds(x, 1, 1, 3, 16);
        dueOdds(x, 1, 2, 9, 256);
        dueOdds(x, 1, 15, 14348907, 1152921504606846976L);
        x.change(2, 2, 8);
        dueOdds(x, 1, 3, 1, 512);
        x.change(2, 2, 7);
        dueOdds(x, 1, 3, 1, 512);
        TunnelPeace alone = Check.tunnel("walker 0 at 7;walker 0 at 8");
        dueOdds(alone, 0, 0, 1, 1);
        dueOdds(alone, 0, 1, 0, 1);
        dueOdds(alone, 0, 15, 0, 1);
        TunnelPeace many = Check.tunnel("child 0;child 1 at 0;child 1 at 1;child 1 at 2;child 1 at 8;child 1 at 9");
        dueOdds(many, 0, 1, 3, 8);
        dueOdds(many, 0, 4, 81, 4096);
        dueOdds(many, 0, 15, 14348907, 35184372088832L);
        dueOdds(most(9), 0, 15, 4747561509943L, 1152921504606846976L);
        dueOdds(most(8), 0, 15, 1, 32768);
        Twins.unchanged(1, "odds", 1, 1, 0);
        Twins.unchanged(8, "odds", 1, 1, 1);
        Twins.unchanged(1, "odds", 0, 0, 0);
        Twins.unchanged(1L << 45, "odds", 0, 15, 1);
    }

    /** Seven of the other side at different cells, from one on. */
    private static TunnelPeace most(int from) {
        TunnelPeace x = new TunnelPeace();
        x.person(0, 0);
        for (int i = 1; i < 8; i++) {
            x.person(0, 1);
            x.change(i, 2, from + i - 1);
        }
        return x;
    }

    private static void oddsBeyond() {
        Check.sentence("25", "BEYOND.");
        Twins.range("odds", 0, 0, 3, 0, 1, 0);
        Twins.range("odds", 1, 0, 15, 0, 0, 1);
        Twins.range("odds", 2, 0, 1, 3, 1, 0);
        Twins.refusedFrom(x -> { }, Check.BEYOND, "odds", 0, 0, 0);
    }

    private static void seed() {
        Check.sentence("26", "z becomes v: what it was.");
        TunnelPeace x = new TunnelPeace();
        Check.due("first", x.seed(-1000001), 1);
        Check.due("was", x.seed(Check.MOST), -1000001);
        Check.due("was greatest", x.seed(Check.LEAST), Check.MOST);
        Check.due("was least", x.seed(0), Check.LEAST);
        Check.due("is", x.count(6), 0);
        Check.due("no finding", x.status(-1), 0);
    }
}
