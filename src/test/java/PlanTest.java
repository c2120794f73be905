/** Promises 17 to 21: where to meet, as what, and whom to leave out. */
final class PlanTest {
    /** The child comes to the walker behind 40 days, by two cells up and one down in six days. */
    static final String SLOW = "guns 99;child 0 at 7;walker 1 season 0;place 1 15;place 3 15;place 5 0";
    /** The child comes to the walker behind 20 days. */
    private static final String IN_TWENTY = "child 0 at 5;walker 1 season 0;place 1 15;place 3 15;place 5 15";

    public static void main(String[] args) {
        placeFor();
        kindFor();
        seasonFor();
        seasonForBeyond();
        bagsFor();
        leaveOut();
        leaveOutNone();
        Check.end("PlanTest");
    }

    private static void dueTried(String text) {
        Check.due(text + ": met behind 39", Check.tunnel(text).ahead(0, 5, 39), 0);
        Check.due(text + ": met behind 40", Check.tunnel(text).ahead(0, 5, 40), 1);
    }

    private static void placeFor() {
        Check.sentence("17", "The CELL that place i of THE LIST must tell, so that GUNS are least behind n (0 to 40) DAYS.");
        TunnelPeace x = Check.tunnel("walker 0 at 4;walker 1 at 11;place 0 0;place 1 0");
        Check.due("to the stripe", x.placeFor(0, 1), 7);
        Check.due("a place for another day", x.placeFor(1, 1), 0);
        Check.due("no day", x.placeFor(0, 0), 0);
        Check.due("nobody", new TunnelPeace().placeFor(5, 40), 0);
        Check.due("98 of 99", Check.tunnel("guns 99;soldier 0 at 4;bride 1 at 11;place 0 0").placeFor(0, 1), 7);
        TunnelPeace y = Check.tunnel("child 0 at 11;child 1 at 13;place 0 0");
        y.go(1);
        Check.due("children meet between", y.placeFor(1, 1), 12);
        for (int cell = 1; cell < 15; cell++) {
            TunnelPeace z = Check.tunnel("child 0 at " + (cell - 1) + ";child 1 at " + (cell + 1));
            z.go(1);
            Check.due("between", z.placeFor(1, 1), cell == 8 ? 7 : cell);
        }
        TunnelPeace least = Check.tunnel("child 1 at 1;walker 0 season 0");
        least.go(1);
        Check.due("the least cell", least.placeFor(1, 1), 0);
        TunnelPeace greatest = Check.tunnel("child 0 at 14;walker 1 season 0");
        greatest.go(1);
        Check.due("the greatest cell", greatest.placeFor(1, 1), 15);
        // To stay at 15 on day 0 is best: they meet on day 2, not on day 1; from a cell 16 it would be day 3.
        Check.due("no cell is beyond 15",
                Check.tunnel("guns 90;place 0 8;place 1 7;place 2 9;child 0 at 12 bags 1;merchant 1").placeFor(0, 4), 15);
        dueTried(SLOW);
        Check.due("behind 40", Check.tunnel(SLOW).placeFor(1, 40), 14);
        Check.due("behind 39", Check.tunnel(SLOW).placeFor(1, 39), 0);
        Twins.unchanged(0, "placeFor", 0, 0);
        Twins.unchanged(7, "placeFor", 1, 1);
        Check.sentence("17", "BEYOND.");
        Twins.range("placeFor", 0, 0, 5, 0, 1);
        Twins.range("placeFor", 1, 0, 40, 0, 0);
        Twins.refused(Check.BEYOND, "placeFor", 6, 41);
    }

    private static void kindFor() {
        Check.sentence("18", "The KIND of which one must be for that.");
        Check.due("a marshal ahead of a child", Check.tunnel("walker 0 at 7;walker 1 at 8").kindFor(0, 1), 4);
        Check.due("two steps", Check.tunnel("walker 0 at 5;walker 1 at 8").kindFor(0, 1), 4);
        Check.due("three steps", Check.tunnel("child 0 at 4;walker 1 at 8").kindFor(0, 1), 6);
        Check.due("too far", Check.tunnel("child 0 at 1;walker 1 at 8").kindFor(0, 1), 0);
        Check.due("only a child stays", Check.tunnel("walker 0 at 12;child 1 at 12;place 0 15").kindFor(0, 1), 5);
        Check.due("only a soldier comes", Check.tunnel("walker 0 at 1 bags 2;child 1 at 3;place 0 15").kindFor(0, 1), 2);
        Check.due("a merchant is enough", Check.tunnel("guns 12;walker 0 at 7;child 1 at 7").kindFor(0, 1), 1);
        Check.due("a marshal goes away",
                Check.tunnel("guns 21;place 0 15;walker 0 at 7 met 1;bride 1 at 7;bride 1 at 7").kindFor(0, 1), 3);
        Check.due("98 of 99", Check.tunnel("guns 99;walker 0 at 3;soldier 1 at 8").kindFor(0, 1), 6);
        Check.due("no day", Check.tunnel("bride 0 at 7;walker 1 at 8").kindFor(0, 0), 0);
        Check.due("the second one", Check.tunnel("walker 0 at 7;bride 1 at 8").kindFor(1, 1), 4);
        dueTried(SLOW);
        Check.due("behind 40", Check.tunnel(SLOW).kindFor(0, 40), 5);
        Check.due("behind 39", Check.tunnel(SLOW).kindFor(0, 39), 0);
        Twins.unchanged(0, "kindFor", 0, 0);
        Check.sentence("18", "BEYOND.");
        Twins.range("kindFor", 0, 0, 3, 0, 1);
        Twins.range("kindFor", 1, 0, 40, 0, 0);
        Twins.refusedFrom(x -> { }, Check.BEYOND, "kindFor", 0, 0);
    }

    private static void dueSeasonFor(String text, int person, int[][] due) {
        TunnelPeace x = Check.tunnel(text);
        for (int[] row : due) {
            Check.due(text + ": met " + row[0] + " behind " + row[1], x.seasonFor(person, row[0], row[1]),
                    row[2] < 0 ? Check.NONE : row[2]);
        }
    }

    private static void seasonFor() {
        Check.sentence("19", "The least SEASON with which MET of one is v (0 to 9999) or more behind n (0 to 40) DAYS.");
        String text = "walker 0 at 1 season 0;walker 1 at 8;soldier 0 at 1";
        dueSeasonFor(text, 0, new int[][] {{1, 2, 2}, {2, 3, 3}, {0, 3, 0}, {0, 0, 0}, {0, 40, 0}, {29, 40, 30}});
        dueSeasonFor(text, 2, new int[][] {{1, 2, 3}, {0, 1, 0}});
        dueSeasonFor("soldier 0 at 7;walker 1 at 8 season 99", 0, new int[][] {{1, 1, 1}, {2, 2, 3}, {40, 40, 79}});
        dueSeasonFor("child 0 at 7;child 1 at 7", 0, new int[][] {{1, 1, 0}, {2, 2, 1}, {40, 40, 1}});
        dueSeasonFor("walker 0 at 7 met 9998;child 1 at 7", 0, new int[][] {{9998, 0, 0}, {9999, 1, 1}, {9999, 40, 1}});
        dueSeasonFor("walker 0 met 9999", 0, new int[][] {{9999, 0, 0}, {9999, 40, 0}});
        dueSeasonFor(SLOW, 0, new int[][] {{1, 40, 1}});
        TunnelPeace home = Check.tunnel("walker 0 at 12;child 1 at 6;place 0 12;place 1 6");
        Check.due("met on the way home alone", home.seasonFor(0, 1, 2), 0);
        home.change(1, 2, 9);
        Check.due("without a season", home.seasonFor(0, 1, 1), 0);
        Twins.unchanged(0, "seasonFor", 1, 7, 0);
        Twins.unchanged(2, "seasonFor", 3, 5, 2);
        Check.sentence("19", "NONE.");
        dueSeasonFor(text, 0, new int[][] {{1, 1, -1}, {3, 3, -1}, {1, 0, -1}, {30, 40, -1}, {9999, 40, -1}});
        dueSeasonFor("soldier 0 at 7;walker 1 at 8 season 99", 0, new int[][] {{41, 40, -1}});
        dueSeasonFor("walker 0 at 7 met 9998;child 1 at 7", 0, new int[][] {{9999, 0, -1}});
        dueSeasonFor(SLOW, 0, new int[][] {{1, 39, -1}, {2, 40, -1}});
        Twins.refused(Check.NONE, "seasonFor", 0, 9999, 40);
        Twins.refused(Check.NONE, "seasonFor", 0, 1, 0);
    }

    private static void seasonForBeyond() {
        Check.sentence("19", "BEYOND.");
        Twins.range("seasonFor", 0, 0, 3, 0, 0, 0);
        Twins.range("seasonFor", 1, 0, 9999, 0, 0, 40);
        Twins.range("seasonFor", 2, 0, 40, 0, 0, 0);
        Twins.refusedFrom(x -> { }, Check.BEYOND, "seasonFor", 0, 0, 0);
    }

    private static void dueBagsFor(String text, int person, int[][] due) {
        TunnelPeace x = Check.tunnel(text);
        for (int[] row : due) {
            Check.due(text + ": behind " + row[0], x.bagsFor(person, row[0]), row[1] < 0 ? Check.NONE : row[1]);
        }
    }

    private static void bagsFor() {
        Check.sentence("20", "The most BAGS with which MET of one is more than now behind n (0 to 40) DAYS.");
        String text = "walker 0 at 1 bags 4;walker 1 at 8 met 9999";
        dueBagsFor(text, 0, new int[][] {{2, 0}, {3, 1}, {4, 1}, {5, 1}, {6, 9}, {40, 9}});
        dueBagsFor("walker 0 at 4 met 9998;walker 1 at 8", 0, new int[][] {{1, 0}, {2, 1}, {3, 9}});
        dueBagsFor("walker 0 at 7 bags 9;walker 1 at 8", 0, new int[][] {{1, 9}});
        dueBagsFor(SLOW, 0, new int[][] {{40, 9}});
        Twins.unchanged(9, "bagsFor", 0, 40);
        Check.sentence("20", "NONE.");
        dueBagsFor(text, 0, new int[][] {{1, -1}, {0, -1}});
        dueBagsFor(text, 1, new int[][] {{40, -1}});
        dueBagsFor(SLOW, 0, new int[][] {{39, -1}});
        Twins.refused(Check.NONE, "bagsFor", 0, 0);
        Twins.refusedFrom(x -> Check.read(x, text), Check.NONE, "bagsFor", 1, 40);
        Check.sentence("20", "BEYOND.");
        Twins.range("bagsFor", 0, 0, 3, 0, 1);
        Twins.range("bagsFor", 1, 0, 40, 0, 0);
        Twins.refusedFrom(x -> { }, Check.BEYOND, "bagsFor", 0, 0);
    }

    private static void dueLeaveOut(String text, int n, long due) {
        Check.due(text + ": leaveOut(" + n + ")", Check.tunnel(text).leaveOut(n), due);
    }

    private static void leaveOut() {
        Check.sentence("21", "The set of fewest people such that, if these have no SEASON from now on (0), MET of all together is as now"
                + " behind n (0 to 20) DAYS; of several the least.");
        dueLeaveOut("walker 0 at 7;walker 1 at 8", 0, 0);
        dueLeaveOut("walker 0 at 7;walker 1 at 8", 1, 1);
        dueLeaveOut("walker 0 at 7;walker 0 at 7;walker 1 at 8", 20, 4);
        dueLeaveOut("walker 0 at 7;walker 0 at 7;walker 1 at 8;walker 1 at 8", 5, 3);
        dueLeaveOut("walker 0 at 7;walker 0 at 7;walker 1 at 8;walker 1 at 8 season 0", 5, 4);
        dueLeaveOut("child 0 at 7 met 9999;child 1 at 8 met 9999", 20, 0);
        dueLeaveOut("walker 0;walker 1", 2, 0);
        dueLeaveOut("walker 0;walker 1", 3, 1);
        dueLeaveOut("walker 1 at 8 met 5000;walker 0 at 7 met 6", 1, 1);
        dueLeaveOut(IN_TWENTY, 19, 0);
        dueLeaveOut(IN_TWENTY, 20, 1);
        Check.due("nobody", new TunnelPeace().leaveOut(20), 0);
        TunnelPeace eight = new TunnelPeace();
        for (int i = 0; i < 8; i++) {
            eight.person(0, i / 4);
            eight.change(i, 2, 7 + i / 4);
        }
        Check.due("four of eight", eight.leaveOut(20), 15);
        eight.change(7, 1, 0);
        eight.change(7, 2, 7);
        Check.due("three of eight", eight.leaveOut(20), 112);
        Twins.unchanged(0, "leaveOut", 0);
    }

    private static void leaveOutNone() {
        Check.sentence("21", "NONE.");
        dueLeaveOut("child 0 at 7;child 1 at 8", 1, Check.NONE);
        dueLeaveOut("child 0 at 7;child 1 at 8", 20, Check.NONE);
        dueLeaveOut("child 0 at 7 met 9999;child 1 at 8 met 9998", 1, Check.NONE);
        Twins.refusedFrom(x -> Check.read(x, "child 0 at 7;child 1 at 8"), Check.NONE, "leaveOut", 1);
        Check.sentence("21", "BEYOND.");
        Twins.range("leaveOut", 0, 0, 20, 0);
    }
}
