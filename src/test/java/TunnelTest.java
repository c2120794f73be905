/** Promises 1 to 9: a new object, and the tunnel with its people. */
final class TunnelTest {
    public static void main(String[] args) {
        newObject();
        noSharedState();
        guns();
        place();
        listed();
        person();
        personAfterUndo();
        of();
        change();
        changeBeyond();
        who();
        two();
        Check.end("TunnelTest");
    }

    private static void newObject() {
        Check.sentence("1", "All as at first; nobody is there; THE TAPE is empty, no image is kept.");
        TunnelPeace x = new TunnelPeace();
        for (int which = -1; which < 7; which++) {
            Check.due("status(" + which + ")", x.status(which), 0);
        }
        int[] counts = {0, 0, 50, 0, 0, 0, 1, 0};
        int[] now = {0, 50, 0, 0, 0, 0, 0, -1};
        for (int what = 0; what < 8; what++) {
            Check.due("count(" + what + ")", x.count(what), counts[what]);
            Check.due("now(" + what + ")", x.now(what), now[what]);
        }
        for (int i = 0; i < 6; i++) {
            Check.due("listed(" + i + ")", x.listed(i), 7);
        }
        for (int cell = 0; cell < 16; cell++) {
            Check.due("who(" + cell + ")", x.who(cell), 0);
        }
        for (int s = 0; s < 4; s++) {
            Check.due("judge(" + s + ")", x.judge(s), Check.MISSING);
        }
        for (int spot = 0; spot < 10; spot++) {
            Check.due("as(" + spot + ", 0)", x.as(spot, 0), Check.MISSING);
        }
        Check.due("of(0, 0)", x.of(0, 0), Check.BEYOND);
        Check.due("wipe", x.wipe(), 0);
        Check.due("text", x.text(), -1);
        Check.due("undo", x.undo(), Check.NONE);
        Check.due("tear", x.tear(), 0);
        Check.due("status", x.status(-1), 16);
    }

    private static void noSharedState() {
        Check.sentence("1", "All as at first; nobody is there; THE TAPE is empty, no image is kept.");
        TunnelPeace first = new TunnelPeace();
        Twins.crowded(first);
        TunnelPeace second = new TunnelPeace();
        Twins.crowded(first);
        Check.due("findings of another one", second.status(-1), 0);
        Twins.dueAlike("beside another one", second, new TunnelPeace());
    }

    private static void guns() {
        Check.sentence("2", "GUNS become v (0 to 99): what they were.");
        TunnelPeace x = new TunnelPeace();
        Check.due("first", x.guns(0), 50);
        Check.due("lowest", x.guns(99), 0);
        Check.due("highest", x.guns(7), 99);
        Check.due("same", x.guns(7), 7);
        Check.due("are", x.now(1), 7);
        Check.sentence("2", "BEYOND.");
        Twins.range("guns", 0, 0, 99, 0);
    }

    private static void place() {
        Check.sentence("3", "THE LIST tells in place i (0 to 5) a CELL: which it was.");
        TunnelPeace x = new TunnelPeace();
        for (int i = 0; i < 6; i++) {
            Check.due("first", x.place(i, 15), 7);
            Check.due("greatest", x.place(i, 0), 15);
            Check.due("least", x.place(i, i + 8), 0);
        }
        for (int i = 0; i < 6; i++) {
            Check.due("each its own", x.listed(i), i + 8);
        }
        Check.sentence("3", "BEYOND.");
        Twins.range("place", 0, 0, 5, 0, 9);
        Twins.range("place", 1, 0, 15, 0, 0);
        Twins.range("place", 1, 0, 15, 5, 0);
        Twins.refused(Check.BEYOND, "place", 6, 16);
    }

    private static void listed() {
        Check.sentence("4", "The CELL in a place of THE LIST.");
        int[] due = {4, 3, 7, 7, 12, 7};
        for (int i = 0; i < 6; i++) {
            Twins.unchanged(due[i], "listed", i);
        }
        Check.sentence("4", "BEYOND.");
        Twins.range("listed", 0, 0, 5, 0);
    }

    private static void person() {
        Check.sentence("5", "A new one of a SIDE, AT its lift: the number.");
        TunnelPeace x = new TunnelPeace();
        for (int i = 0; i < 8; i++) {
            Check.due("number", x.person(i % 7, i % 2), i);
            int[] due = {i % 7, i % 2, i % 2 == 0 ? 0 : 15, 30, 0, 0};
            for (int what = 0; what < due.length; what++) {
                Check.due("of new " + what, x.of(i, what), due[what]);
            }
        }
        Check.due("on later days, too", DaysTest.onDay(100).person(6, 1), 0);
        Check.sentence("5", "BEYOND.");
        Twins.range("person", 0, 0, 6, 0, 1);
        Twins.range("person", 1, 0, 1, 6, 0);
        Twins.refused(Check.BEYOND, "person", -1, 2);
        Check.sentence("5", "FULL.");
        Twins.refusedFrom(Twins::crowded, Check.FULL, "person", 0, 0);
        Twins.refusedFrom(Twins::crowded, Check.FULL, "person", 6, 1);
        Twins.refusedFrom(Twins::crowded, Check.BEYOND, "person", 7, 1);
        TunnelPeace seven = new TunnelPeace();
        for (int i = 0; i < 7; i++) {
            seven.person(0, 0);
        }
        Check.due("the eighth isn't too many", seven.person(0, 0), 7);
    }

    private static void personAfterUndo() {
        Check.sentence("5", "A new one of a SIDE, AT its lift: the number.");
        TunnelPeace x = Check.tunnel("walker 0");
        x.image();
        Check.read(x, "bride 1 at 3 season 99 bags 9 met 9999");
        x.undo();
        Check.due("the number again", x.person(0, 0), 1);
        int[] due = {0, 0, 0, 30, 0, 0};
        for (int what = 0; what < due.length; what++) {
            Check.due("nothing of the one before: " + what, x.of(1, what), due[what]);
        }
    }

    private static void of() {
        Check.sentence("6", "Of one: what 0 KIND, 1 SIDE, 2 CELL, 3 SEASON, 4 BAGS, 5 MET, 6 STEPS, 7 CROSSES (1, 0), 8 CALMS,"
                + " 9 TIRES.");
        int[][] due = {{0, 0, 6, 29, 2, 0, 1, 0, 1, 1}, {1, 1, 8, 20, 0, 7, 2, 0, 2, 1}, {5, 1, 8, 30, 0, 0, 1, 1, 10, 0},
            {6, 0, 3, 12, 0, 4, 4, 0, 6, 1}};
        for (int i = 0; i < due.length; i++) {
            for (int what = 0; what < 10; what++) {
                Twins.unchanged(due[i][what], "of", i, what);
            }
        }
        Check.sentence("6", "BEYOND.");
        Twins.range("of", 0, 0, 3, 0, 0);
        Twins.range("of", 1, 0, 9, 3, 0);
        Twins.rangeFrom(Twins::crowded, "of", 0, 0, 7, 0, 9);
        Twins.refusedFrom(x -> { }, Check.BEYOND, "of", 0, 0);
    }

    private static void change() {
        Check.sentence("7", "KIND (what 0), SIDE (1), CELL (2), SEASON (3), BAGS (4), MET (5) of one becomes v: what it was.");
        int[] first = {0, 1, 15, 30, 0, 0};
        int[] most = {6, 1, 15, 99, 9, 9999};
        TunnelPeace x = Check.tunnel("bride 0 at 3;walker 1;bride 0 at 3");
        for (int what = 0; what <= 5; what++) {
            Check.due("was " + what, x.change(1, what, most[what]), first[what]);
            Check.due("is " + what, x.of(1, what), most[what]);
        }
        for (int what = 0; what <= 5; what++) {
            Check.due("was most " + what, x.change(1, what, 0), most[what]);
            Check.due("is 0 " + what, x.of(1, what), 0);
        }
        int[] others = {6, 0, 3, 30, 0, 0};
        for (int what = 0; what <= 5; what++) {
            Check.due("of the one before " + what, x.of(0, what), others[what]);
            Check.due("of the next one " + what, x.of(2, what), others[what]);
        }
        TunnelPeace y = Check.tunnel("walker 0 at 4 bags 1");
        y.change(0, 1, 1);
        Check.due("another side, the same cell", y.of(0, 2), 4);
        Check.due("abroad now", y.now(3), 1);
        y.change(0, 0, 2);
        Check.due("steps of the other kind", y.of(0, 6), 3);
        y.change(0, 3, 0);
        y.go(2);
        Check.due("to the other lift", y.of(0, 2), 10);
    }

    private static void changeBeyond() {
        Check.sentence("7", "BEYOND.");
        int[] most = {6, 1, 15, 99, 9, 9999};
        for (int what = 0; what <= 5; what++) {
            Twins.range("change", 2, 0, most[what], 3, what, 0);
        }
        Twins.range("change", 0, 0, 3, 0, 3, 9);
        Twins.range("change", 1, 0, 5, 0, 0, 0);
        Twins.refusedFrom(x -> { }, Check.BEYOND, "change", 0, 0, 0);
    }

    private static void who() {
        Check.sentence("8", "Who is AT a CELL, as a set.");
        TunnelPeace x = Check.tunnel("walker 0 at 7;walker 1 at 8;walker 0 at 7;child 1 at 7;child 0 at 8;child 0;child 1");
        int[][] due = {{0, 32}, {1, 0}, {6, 0}, {7, 13}, {8, 18}, {9, 0}, {14, 0}, {15, 64}};
        for (int[] row : due) {
            Check.due("who(" + row[0] + ")", x.who(row[0]), row[1]);
        }
        TunnelPeace all = new TunnelPeace();
        for (int i = 0; i < 8; i++) {
            all.person(0, 0);
        }
        Check.due("all", all.who(0), 255);
        Twins.unchanged(6, "who", 8);
        Check.sentence("8", "BEYOND.");
        Twins.range("who", 0, 0, 15, 0);
    }

    private static void two() {
        Check.sentence("9", "Whether two would meet where they are now (1, 0).");
        TunnelPeace x = Check.tunnel("walker 0 at 7;walker 1 at 8;walker 0 at 7;child 1 at 7;child 0 at 8");
        Check.due("over the stripe", x.two(0, 1), 1);
        Check.due("the other way", x.two(1, 0), 1);
        Check.due("of one side", x.two(0, 2), 0);
        Check.due("at one cell", x.two(3, 0), 1);
        Check.due("both abroad", x.two(3, 4), 1);
        Check.due("of one side over the stripe", x.two(1, 3), 0);
        x.change(1, 2, 9);
        Check.due("too far", x.two(0, 1), 0);
        Check.due("next to one another", x.two(1, 4), 0);
        x.change(0, 3, 0);
        x.change(3, 3, 0);
        Check.due("without a season, too", x.two(0, 3), 1);
        Twins.unchanged(0, "two", 0, 1);
        Check.sentence("9", "BEYOND: also one and the same.");
        for (int i = 0; i < 4; i++) {
            Twins.refused(Check.BEYOND, "two", i, i);
        }
        Twins.range("two", 0, 1, 3, 0, 0);
        Twins.range("two", 1, 0, 2, 3, 0);
        Twins.refused(Check.BEYOND, "two", 4, 3);
        Twins.refused(Check.BEYOND, "two", 3, -1);
        Twins.refused(Check.BEYOND, "two", 3, 4);
        Twins.refused(Check.BEYOND, "two", -1, -1);
        Twins.refused(Check.BEYOND, "two", 9, 9);
    }
}
