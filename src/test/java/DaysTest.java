/** How a day goes by (Terms), and promises 10 and 11: days, and what is told of now. */
final class DaysTest {
    public static void main(String[] args) {
        listByDays();
        towardsThePlace();
        aheadOfTheStripe();
        abroad();
        crossing();
        homewards();
        pairs();
        howOftenMet();
        gunsLess();
        gunsMore();
        bags();
        seasons();
        day();
        go();
        goBeyond();
        goState();
        now();
        nowOfMany();
        Check.end("DaysTest");
    }

    /** It takes more calls to come here than are promised; the class doesn't count calls, so it can be shown. */
    static TunnelPeace onDay(int day) {
        TunnelPeace x = new TunnelPeace();
        goTo(x, day);
        return x;
    }

    static void toLastDay(TunnelPeace x) {
        Twins.rich(x);
        goTo(x, 99999);
    }

    private static void goTo(TunnelPeace x, int day) {
        for (int left = day - x.now(0); left > 0; left -= 60) {
            x.go(Math.min(60, left));
        }
    }

    /** Cells of the first one behind each of some days. */
    private static void dueWay(String text, int... cells) {
        dueWay(text, Check.tunnel(text), cells);
    }

    private static void dueWay(String what, TunnelPeace x, int... cells) {
        for (int cell : cells) {
            x.go(1);
            Check.due(what + " behind day " + x.now(0), x.of(0, 2), cell);
        }
    }

    private static void listByDays() {
        Check.sentence("DAY", "A DAY goes by: P is the PLACE of THE LIST for DAY modulo 6.");
        TunnelPeace x = Check.tunnel("walker 0 at 3");
        for (int i = 0; i < 6; i++) {
            x.place(i, i);
        }
        dueWay("list", x, 0, 1, 2, 3, 4, 5, 2, 1, 2, 3, 4, 5, 2);
        TunnelPeace late = new TunnelPeace();
        late.go(60);
        late.go(59);
        late.person(0, 0);
        late.place(5, 2);
        late.place(0, 1);
        late.place(1, 3);
        dueWay("late", late, 2, 1, 3, 6, 7);
    }

    private static void towardsThePlace() {
        Check.sentence("DAY", "(1) PEOPLE by numbers: one with a SEASON above 0 goes as many CELLS as its STEPS towards P, no farther;");
        dueWay("walker 0", 3, 6, 7, 7);
        dueWay("walker 0 at 4", 7, 7);
        dueWay("walker 0 at 5", 7, 7);
        dueWay("walker 0 at 7", 7, 7);
        dueWay("walker 0 at 1 bags 1", 3, 5, 7);
        dueWay("walker 0 at 1 bags 9", 2, 3, 4);
        dueWay("merchant 0 at 1", 3, 5, 7);
        dueWay("general 0 at 1 bags 1", 2, 3);
        dueWay("bride 0 at 1 bags 9", 4, 7);
        dueWay("place 0 2;place 1 2;soldier 0 at 7", 3, 2);
        dueWay("place 0 0;place 1 0;walker 0 at 4", 1, 0);
        dueWay("place 0 15;place 1 15;walker 1 at 11", 14, 15);
        dueWay("walker 1", 12, 9, 8, 8);
        dueWay("child 0 at 3", 3, 4, 4, 5, 5, 6);
        dueWay("walker 0 at 1 season 1", 4, 1);
        dueWay("walker 0 at 1 season 99", 4, 7);
    }

    private static void aheadOfTheStripe() {
        Check.sentence("DAY", "one that doesn't CROSS then stops ahead of the stripe");
        for (String kind : new String[] {"walker", "merchant", "soldier", "general", "marshal", "bride"}) {
            for (int place = 8; place < 16; place++) {
                dueWay("place 0 " + place + ";place 1 " + place + ";" + kind + " 0 at 6", 7, 7);
                dueWay("place 0 " + (15 - place) + ";place 1 " + (15 - place) + ";" + kind + " 1 at 9", 8, 8);
            }
        }
        dueWay("place 0 8;walker 0 at 7", 7);
        dueWay("walker 1 at 8", 8);
        // Whether it crosses is asked ahead of the day's meetings.
        dueWay("guns 21;place 0 12;place 1 12;general 0 at 7;child 1 at 8", 7, 9);
        dueWay("place 0 12;place 1 12;bride 0 at 7 met 4;child 1 at 8", 7, 11);
        dueWay("place 0 12;place 1 12;marshal 0 at 7 met 2;child 1 at 8", 7, 9);
        dueWay("place 0 12;place 1 12;guns 6;soldier 0 at 7;child 1 at 8", 7, 11);
    }

    private static void abroad() {
        Check.sentence("DAY", "(if it is on the other one's side already, it goes about there, up to the stripe, likewise);");
        dueWay("walker 0 at 12", 9, 8, 8);
        dueWay("place 0 0;place 1 0;soldier 0 at 9", 8, 8);
        dueWay("walker 0 at 8", 8);
        dueWay("place 0 10;place 1 15;place 2 12;walker 0 at 12", 10, 13, 12);
        dueWay("place 0 8;place 1 15;soldier 0 at 8", 8, 12);
        dueWay("place 0 15;place 1 15;walker 1 at 3", 6, 7, 7);
        dueWay("place 0 8;walker 1 at 7", 7);
        dueWay("place 0 2;place 1 0;place 2 6;walker 1 at 4", 2, 0, 3);
    }

    private static void crossing() {
        Check.sentence("DAY", "one that doesn't CROSS then stops");
        dueWay("place 0 12;place 1 12;bride 0 at 6 met 5", 10, 12);
        dueWay("place 0 12;bride 0 at 6 met 4", 7);
        dueWay("guns 0;place 0 12;soldier 0 at 6", 10);
        dueWay("guns 1;place 0 12;soldier 0 at 6", 7);
        dueWay("guns 20;place 0 12;place 1 12;general 0 at 7", 9, 11);
        dueWay("guns 21;place 0 12;general 0 at 7", 7);
        dueWay("place 0 3;marshal 1 at 8 met 1", 6);
        dueWay("place 0 3;marshal 1 at 8 met 2", 8);
        dueWay("place 1 15;child 0 at 7", 7, 8, 8);
        dueWay("place 1 0;child 0 at 8", 8, 7, 7);
        dueWay("place 0 8;bride 0 at 7 met 5", 8);
    }

    private static void homewards() {
        Check.sentence("DAY", "one without goes as many towards its lift, whether it CROSSES or not.");
        dueWay("walker 0 at 14 season 0", 11, 8, 5, 2, 0, 0);
        dueWay("walker 0 at 8 season 0 bags 9", 7, 6);
        dueWay("merchant 1 at 7 season 0", 9, 11, 13, 15, 15);
        dueWay("soldier 1 at 3 season 0", 7, 11, 15, 15);
        dueWay("general 1 at 7 season 0", 9, 11);
        dueWay("marshal 0 at 8 season 0", 6, 4);
        dueWay("marshal 0 at 8 season 0 met 1", 6, 4);
        dueWay("bride 0 at 9 season 0", 5, 1, 0);
        dueWay("child 0 at 9 season 0", 9, 8, 8, 7, 7, 6);
        dueWay("walker 0 season 0", 0, 0);
        dueWay("walker 0 at 6 season 1", 7, 4, 1, 0);
        dueWay("soldier 0 at 5 season 2", 7, 3);
        dueWay("soldier 0 at 5 season 3", 7, 7, 3);
    }

    private static void pairs() {
        Check.sentence("DAY", "(2) Of each pair of different SIDES (by the lesser number, then the greater one) AT one CELL,"
                + " or one AT 7 and the other one AT 8: both meet:");
        for (int a = 0; a < 16; a++) {
            for (int b = 0; b < 16; b++) {
                boolean meet = a == b || a + b == 15 && Math.abs(a - b) == 1;
                dueMet("child 0 at " + a + ";child 1 at " + b, meet ? 1 : 0, meet ? 1 : 0);
                dueMet("child 1 at " + a + ";child 0 at " + b, meet ? 1 : 0, meet ? 1 : 0);
                dueMet("child 0 at " + a + ";child 0 at " + b, 0, 0);
                dueMet("child 1 at " + a + ";child 1 at " + b, 0, 0);
            }
        }
        dueMet("walker 0 at 7;merchant 0 at 7;walker 1 at 8;child 1 at 7", 2, 2, 2, 2);
        dueMet("child 0 at 8;child 1 at 7;child 0 at 3;child 1 at 3", 1, 1, 1, 1);
        dueMet("child 0 at 6;child 0 at 7;child 0 at 8;child 0 at 9;child 1 at 7;child 1 at 8", 0, 2, 2, 0, 2, 2);
        // Where they are behind their steps counts, not where they were, nor whom they pass.
        dueMet("walker 0 at 4;walker 1 at 11", 1, 1);
        dueMet("walker 0 at 6 season 0;child 1 at 6", 0, 0);
        dueMet("soldier 0 at 9 season 0;soldier 1 at 6 season 0", 0, 0);
        dueMet("walker 0 at 12 season 0;child 1 at 9", 1, 1);
    }

    private static void dueMet(String text, int... due) {
        TunnelPeace x = Check.tunnel(text);
        x.go(1);
        for (int i = 0; i < due.length; i++) {
            Check.due(text + ": met of " + i, x.of(i, 5), due[i]);
        }
    }

    private static void howOftenMet() {
        Check.sentence("DAY", "MET of both is 1 more (9999 at most),");
        dueMet("child 0 at 7 met 9997;child 1 at 7", 9998, 1);
        dueMet("child 0 at 7 met 9998;child 1 at 7 met 9997", 9999, 9998);
        dueMet("child 0 at 7 met 9999;child 1 at 7 met 9998", 9999, 9999);
        dueMet("child 0 at 7 met 9998;child 1 at 7;child 1 at 8 met 9999", 9999, 1, 9999);
        Check.due("they calm yet", Check.tunnel("child 0 at 7 met 9999;child 1 at 7 met 9999").go(1), 35);
    }

    private static void dueGuns(String text, int guns, int due) {
        TunnelPeace x = Check.tunnel(text);
        x.guns(guns);
        Check.due(text + " at " + guns, x.go(1), due);
    }

    private static void gunsLess() {
        Check.sentence("DAY", "GUNS what both CALM together less (0 at least; by all as they were ahead of that).");
        String pair = "walker 0 at 7;merchant 1 at 8";
        dueGuns(pair, 99, 99);
        dueGuns(pair, 60, 62);
        dueGuns(pair, 4, 6);
        dueGuns(pair, 3, 0);
        dueGuns(pair, 2, 0);
        dueGuns(pair, 0, 0);
        String four = "walker 0 at 7;merchant 0 at 7;walker 1 at 8;child 1 at 7";
        dueGuns(four, 50, 50 - 2 - 11 - 3 - 12 + 5);
        dueGuns(four, 29, 6);
        dueGuns(four, 28, 0);
        dueGuns(four, 27, 0);
        dueGuns("child 0 at 8;child 1 at 7;child 0 at 3;child 1 at 3", 50, 50 - 20 - 20 + 5);
        dueGuns("marshal 0 at 7;child 1 at 7;child 1 at 8;marshal 0 at 7", 99, 99 - 4 * 20 + 5);
        dueGuns("soldier 0 at 7;soldier 1 at 8", 50, 55);
    }

    private static void gunsMore() {
        Check.sentence("DAY", "(3) GUNS are 5 more (99 at most), but stay 0, if they are 0 then.");
        int[][] due = {{0, 0}, {1, 6}, {5, 10}, {50, 55}, {93, 98}, {94, 99}, {95, 99}, {98, 99}, {99, 99}};
        for (int[] row : due) {
            dueGuns("walker 0", row[0], row[1]);
        }
        TunnelPeace x = new TunnelPeace();
        x.guns(0);
        Check.due("stay 0", x.go(60), 0);
        dueGuns("child 0 at 7;walker 1 at 8", 11, 0);
        dueGuns("child 0 at 7;walker 1 at 8", 12, 6);
    }

    private static void dueBags(String text, int due) {
        TunnelPeace x = Check.tunnel(text);
        x.go(1);
        Check.due(text + ": bags", x.of(0, 4), due);
    }

    private static void bags() {
        Check.sentence("DAY", "(4) Of PEOPLE AT their lift BAGS are 0.");
        dueBags("walker 0 at 1 bags 2;place 0 0", 0);
        dueBags("walker 0 at 2 bags 9;place 0 0", 9);
        dueBags("walker 0 at 0 bags 9;place 0 0", 0);
        dueBags("walker 0 at 0 bags 9", 9);
        dueBags("walker 0 at 1 season 0 bags 9", 0);
        dueBags("walker 1 at 14 season 0 bags 1", 0);
        dueBags("walker 1 at 15 bags 3;place 0 15", 0);
        dueBags("walker 1 at 1 bags 3;place 0 0", 3);
        dueBags("walker 0 at 15 bags 3;place 0 15", 3);
        dueBags("child 0 bags 4", 0);
        dueBags("child 1 bags 4", 0);
    }

    private static void dueSeason(String text, int due) {
        TunnelPeace x = Check.tunnel(text);
        x.go(1);
        Check.due(text + ": season", x.of(0, 3), due);
    }

    private static void seasons() {
        Check.sentence("DAY", "SEASON of all is what each TIRES less (0 at least).");
        dueSeason("walker 0 season 99", 98);
        dueSeason("walker 0 season 2", 1);
        dueSeason("walker 0 season 1", 0);
        dueSeason("walker 0 season 0", 0);
        dueSeason("soldier 0 season 3", 1);
        dueSeason("soldier 0 season 2", 0);
        dueSeason("soldier 0 season 1", 0);
        dueSeason("soldier 0 season 0", 0);
        dueSeason("bride 0 season 1", 0);
        dueSeason("marshal 1 season 1", 0);
        dueSeason("general 1 season 1", 0);
        dueSeason("child 0 season 1", 1);
        dueSeason("child 0 season 0", 0);
        TunnelPeace all = Check.tunnel("soldier 0 season 1;walker 0 season 0;bride 0;child 0 season 4;soldier 1;bride 1");
        all.go(1);
        int[] due = {0, 0, 28, 4, 28, 28};
        for (int i = 0; i < due.length; i++) {
            Check.due("season of " + i, all.of(i, 3), due[i]);
        }
    }

    private static void day() {
        Check.sentence("DAY", "DAY is one more (99999 at most).");
        TunnelPeace x = new TunnelPeace();
        for (int day = 0; day < 8; day++) {
            Check.due("day", x.now(0), day);
            x.go(1);
        }
        TunnelPeace last = onDay(99998);
        Check.due("the last one", last.go(1), 99);
        Check.due("day", last.now(0), 99999);
        last.person(5, 0);
        Check.due("none is behind it: each is odd", last.ahead(0, 2, 5), 5);
    }

    private static void go() {
        Check.sentence("10", "n DAYS (1 to 60): GUNS then.");
        TunnelPeace x = Check.tunnel("guns 9");
        Check.due("1", x.go(1), 14);
        Check.due("day", x.now(0), 1);
        Check.due("2", x.go(2), 24);
        Check.due("60", x.go(60), 99);
        Check.due("day", x.now(0), 63);
        for (int n : new int[] {1, 2, 30, 59, 60}) {
            TunnelPeace once = new TunnelPeace();
            TunnelPeace oneByOne = new TunnelPeace();
            Twins.rich(once);
            Twins.rich(oneByOne);
            int guns = 0;
            for (int i = 0; i < n; i++) {
                guns = oneByOne.go(1);
            }
            Check.due("guns behind " + n, once.go(n), guns);
            Twins.dueAlike(n + " days one by one", once, oneByOne);
        }
    }

    private static void goBeyond() {
        Check.sentence("10", "BEYOND.");
        Twins.range("go", 0, 1, 60, 0);
        Twins.refused(Check.BEYOND, "go", -60);
    }

    private static void goState() {
        Check.sentence("10", "STATE: DAY would be above 99999.");
        TunnelPeace x = onDay(99960);
        Check.due("40 days are too many", x.go(40), Check.STATE);
        Check.due("60 days, too", x.go(60), Check.STATE);
        Check.due("BEYOND is asked first", x.go(61), Check.BEYOND);
        Check.due("no day went by", x.now(0), 99960);
        Check.due("39 days are not", x.go(39), 99);
        Check.due("day", x.now(0), 99999);
        Twins.refusedFrom(DaysTest::toLastDay, Check.STATE, "go", 1);
        Twins.refusedFrom(DaysTest::toLastDay, Check.BEYOND, "go", 0);
    }

    private static void dueNow(String text, int what, int due) {
        Check.due(text + ": now(" + what + ")", Check.tunnel(text).now(what), due);
    }

    private static void now() {
        Check.sentence("11", "What 0 DAY, 1 GUNS, 2 MET of all together,");
        TunnelPeace x = onDay(7);
        x.guns(12);
        Check.due("day", x.now(0), 7);
        Check.due("guns", x.now(1), 12);
        Check.due("met of nobody", x.now(2), 0);
        dueNow("child 0 met 9999;child 1 met 1;child 0;child 0 met 20", 2, 10020);
        Check.sentence("11", "3 who is on the other one's side (of SIDE 0 AT 8 to 15, of SIDE 1 AT 0 to 7), as a set,");
        dueNow("guns 1", 3, 0);
        dueNow("child 0;child 0 at 7;child 0 at 8;child 0 at 15", 3, 12);
        dueNow("child 1;child 1 at 8;child 1 at 7;child 1 at 0", 3, 12);
        Check.sentence("11", "4 who has a SEASON, as a set,");
        dueNow("guns 1", 4, 0);
        dueNow("child 0 season 0;child 0 season 1;child 1;child 1 season 0;child 1 season 99", 4, 22);
        Check.sentence("11", "5 CELLS with somebody, as a set,");
        dueNow("guns 1", 5, 0);
        dueNow("child 0;child 1", 5, 1 | 1 << 15);
        dueNow("child 0 at 4;child 0 at 4;child 1 at 4;child 1 at 9", 5, 1 << 4 | 1 << 9);
        Check.sentence("11", "6 pairs that would meet where they are now, how many,");
        dueNow("guns 1", 6, 0);
        dueNow("child 0", 6, 0);
        dueNow("child 0;child 1", 6, 0);
        dueNow("child 0 at 7;child 1 at 8;child 0 at 8;child 1 at 7", 6, 4);
        dueNow("child 0 at 6;child 1 at 7;child 0 at 9;child 1 at 8", 6, 0);
        Check.sentence("11", "7 who MET most (-1: there is nobody).");
        Check.due("nobody", new TunnelPeace().now(7), -1);
        dueNow("child 0", 7, 0);
        dueNow("child 0 met 9998;child 1 met 9999", 7, 1);
        dueNow("child 0 met 3;child 0 met 4;child 1 met 4;child 1 met 2", 7, 1);
        Check.sentence("11", "BEYOND.");
        Twins.range("now", 0, 0, 7, 0);
    }

    private static void nowOfMany() {
        Check.sentence("11", "pairs that would meet where they are now, how many,");
        TunnelPeace x = new TunnelPeace();
        for (int i = 0; i < 8; i++) {
            x.person(5, i % 2);
            x.change(i, 2, 7 + i % 2);
            x.change(i, 5, 9999);
        }
        int[] due = {0, 50, 79992, 0, 255, 3 << 7, 16, 0};
        for (int what = 0; what < 8; what++) {
            Check.due("of eight: now(" + what + ")", x.now(what), due[what]);
            Twins.unchanged(new int[] {1, 61, 11, 0, 15, 328, 0, 1}[what], "now", what);
        }
    }
}
