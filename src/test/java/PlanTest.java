/** Promises 17 to 21: where to meet, as what, and whom to leave out. */
final class PlanTest {
    public static void main(String[] args) {
        placeFor();
        kindFor();
        seasonFor();
        bagsFor();
        leaveOut();
        nothingChanges();
        Check.end("PlanTest");
    }

    private static void placeFor() {
        TunnelPeace x = Check.tunnel("walker 0 at 4;walker 1 at 11;place 0 0;place 1 0");
        Check.due("17: to the stripe", x.placeFor(0, 1), 7);
        Check.due("17: a place for another day", x.placeFor(1, 1), 0);
        Check.due("17: no day", x.placeFor(0, 0), 0);
        TunnelPeace y = Check.tunnel("child 0 at 11;child 1 at 13;place 0 0");
        y.go(1);
        Check.due("17: children meet between", y.placeFor(1, 1), 12);
        Check.due("17: nobody", new TunnelPeace().placeFor(5, 40), 0);
        int[][] wrong = {{-1, 1}, {6, 1}, {0, -1}, {0, 41}};
        for (int[] row : wrong) {
            Check.due("17: beyond", x.placeFor(row[0], row[1]), Check.BEYOND);
        }
    }

    private static void kindFor() {
        Check.due("18: a marshal ahead of a child", Check.tunnel("walker 0 at 7;walker 1 at 8").kindFor(0, 1), 4);
        Check.due("18: two steps", Check.tunnel("walker 0 at 5;walker 1 at 8").kindFor(0, 1), 4);
        Check.due("18: three steps", Check.tunnel("child 0 at 4;walker 1 at 8").kindFor(0, 1), 6);
        Check.due("18: too far", Check.tunnel("child 0 at 1;walker 1 at 8").kindFor(0, 1), 0);
        Check.due("18: 98 of 99", Check.tunnel("guns 99;walker 0 at 3;soldier 1 at 8").kindFor(0, 1), 6);
        TunnelPeace x = Check.tunnel("bride 0 at 7;walker 1 at 8");
        Check.due("18: no day", x.kindFor(0, 0), 0);
        int[][] wrong = {{-1, 1}, {2, 1}, {0, -1}, {0, 41}};
        for (int[] row : wrong) {
            Check.due("18: beyond", x.kindFor(row[0], row[1]), Check.BEYOND);
        }
    }

    private static void seasonFor() {
        TunnelPeace x = Check.tunnel("walker 0 at 1 season 0;walker 1 at 8;soldier 0 at 1");
        int[][] due = {{1, 2, 2}, {2, 3, 3}, {0, 3, 0}, {0, 0, 0}};
        for (int[] row : due) {
            Check.due("19: met " + row[0] + " behind " + row[1], x.seasonFor(0, row[0], row[1]), row[2]);
        }
        Check.due("19: a soldier", x.seasonFor(2, 1, 2), 3);
        Check.due("19: too few days", x.seasonFor(0, 1, 1), Check.NONE);
        Check.due("19: too often", x.seasonFor(0, 3, 3), Check.NONE);
        Check.due("19: no days", x.seasonFor(0, 1, 0), Check.NONE);
        int[][] wrong = {{-1, 1, 1}, {3, 1, 1}, {0, -1, 1}, {0, 10000, 1}, {0, 1, -1}, {0, 1, 41}};
        for (int[] row : wrong) {
            Check.due("19: beyond", x.seasonFor(row[0], row[1], row[2]), Check.BEYOND);
        }
        TunnelPeace y = Check.tunnel("soldier 0 at 7;walker 1 at 8 season 99");
        Check.due("19: a long one", y.seasonFor(0, 40, 40), 79);
        Check.due("19: none is so long", y.seasonFor(0, 41, 40), Check.NONE);
        TunnelPeace home = Check.tunnel("walker 0 at 12;child 1 at 6;place 0 12;place 1 6");
        Check.due("19: met on the way home alone", home.seasonFor(0, 1, 2), 0);
        home.change(1, 2, 9);
        Check.due("19: without a season", home.seasonFor(0, 1, 1), 0);
    }

    private static void bagsFor() {
        TunnelPeace x = Check.tunnel("walker 0 at 1 bags 4;walker 1 at 8 met 9999");
        int[][] due = {{2, 0}, {3, 1}, {4, 1}, {5, 1}, {6, 9}, {40, 9}};
        for (int[] row : due) {
            Check.due("20: behind " + row[0], x.bagsFor(0, row[0]), row[1]);
        }
        Check.due("20: too few days", x.bagsFor(0, 1), Check.NONE);
        Check.due("20: no days", x.bagsFor(0, 0), Check.NONE);
        Check.due("20: met most", x.bagsFor(1, 40), Check.NONE);
        int[][] wrong = {{-1, 1}, {2, 1}, {0, -1}, {0, 41}};
        for (int[] row : wrong) {
            Check.due("20: beyond", x.bagsFor(row[0], row[1]), Check.BEYOND);
        }
    }

    private static void leaveOut() {
        TunnelPeace x = Check.tunnel("walker 0 at 7;walker 1 at 8");
        Check.due("21: no days", x.leaveOut(0), 0);
        Check.due("21: either", x.leaveOut(1), 1);
        Check.due("21: the fewest", Check.tunnel("walker 0 at 7;walker 0 at 7;walker 1 at 8").leaveOut(20), 4);
        Check.due("21: the least of two",
                Check.tunnel("walker 0 at 7;walker 0 at 7;walker 1 at 8;walker 1 at 8").leaveOut(5), 3);
        Check.due("21: not whom a bridge keeps apart",
                Check.tunnel("walker 0 at 7;walker 0 at 7;walker 1 at 8;walker 1 at 8 season 0").leaveOut(5), 4);
        Check.due("21: too slow", Check.tunnel("child 0 at 7;child 1 at 8").leaveOut(1), Check.NONE);
        Check.due("21: met most already", Check.tunnel("child 0 at 7 met 9999;child 1 at 8 met 9999").leaveOut(20), 0);
        Check.due("21: nobody", new TunnelPeace().leaveOut(20), 0);
        Check.due("21: late", Check.tunnel("walker 0;walker 1").leaveOut(2), 0);
        Check.due("21: at last", Check.tunnel("walker 0;walker 1").leaveOut(3), 1);
        Check.due("21: below", x.leaveOut(-1), Check.BEYOND);
        Check.due("21: above", x.leaveOut(21), Check.BEYOND);
    }

    private static void nothingChanges() {
        TunnelPeace x = Check.tunnel("walker 0 at 4 bags 2;walker 1 at 11;place 0 3");
        x.placeFor(0, 9);
        x.kindFor(0, 9);
        x.seasonFor(0, 3, 9);
        x.bagsFor(0, 9);
        x.leaveOut(9);
        int[] due = {0, 0, 4, 30, 2, 0};
        for (int what = 0; what < due.length; what++) {
            Check.due("17 to 21: of 0 " + what, x.of(0, what), due[what]);
        }
        Check.due("17: listed", x.listed(0), 3);
        Check.due("17 to 21: day", x.now(0), 0);
        Check.due("17 to 21: guns", x.now(1), 50);
    }
}
