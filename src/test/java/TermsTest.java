/** The Terms up to what people are: findings, cells, guns, the list, people and what their kinds do. */
final class TermsTest {
    public static void main(String[] args) {
        findings();
        orderOfFindings();
        refusedCalls();
        quotients();
        sets();
        leastOfSeveral();
        cells();
        guns();
        list();
        howManyPeople();
        kinds();
        sides();
        atFirst();
        steps();
        childSteps();
        crosses();
        calms();
        tires();
        Check.end("TermsTest");
    }

    private static void findings() {
        Check.sentence("FINDINGS", "FINDINGS are answers below -1000000: LOW is -1000001; LOW BEYOND, LOW - 1 FULL, LOW - 2 KIND,"
                + " LOW - 3 NONE, LOW - 4 STATE, LOW - 5 MISSING, LOW - 6 SIZE (in longs, too).");
        TunnelPeace x = new TunnelPeace();
        Check.due("BEYOND", x.guns(100), -1000001);
        for (int i = 0; i < 8; i++) {
            x.person(0, 0);
        }
        Check.due("FULL", x.person(0, 0), -1000002);
        x.hold(0, 0);
        Check.due("KIND", x.as(0, 1), -1000003);
        Check.due("NONE", x.undo(), -1000004);
        Check.due("MISSING", x.as(1, 0), -1000006);
        Check.due("SIZE", x.sheet(0, 8, -1), -1000007);
        Check.due("BEYOND in a long", x.odds(0, 16, 0), -1000001L);
        Check.due("STATE", DaysTest.onDay(99999).go(1), -1000005);
    }

    /** Calls with two things to find: the one asked first is told. */
    private static void orderOfFindings() {
        Check.sentence("FINDINGS", "Each act tells its findings in the order in which they are asked (that of its words);");
        Twins.refusedFrom(Twins::crowded, Check.BEYOND, "person", 7, 0);
        Twins.refusedFrom(Twins::crowded, Check.BEYOND, "person", 0, 2);
        Twins.refusedFrom(x -> TextTest.fill(x, 120), Check.BEYOND, "feed", 0, 5);
        Twins.refused(Check.BEYOND, "meets", 4, 9999);
        Twins.refused(Check.BEYOND, "seasonFor", 4, 9999, 0);
        Twins.refused(Check.BEYOND, "bagsFor", 4, 0);
        Twins.refused(Check.BEYOND, "fits", 4, 4);
        Twins.refused(Check.MISSING, "fits", 3, 4);
        Twins.refused(Check.BEYOND, "kinds", -1, -1);
        Twins.refused(Check.MISSING, "kinds", 3, -1);
        Twins.refused(Check.BEYOND, "as", 0, 7);
        Twins.refused(Check.BEYOND, "as", 10, 0);
        Twins.refused(Check.BEYOND, "as", 9, -1);
        Twins.refused(Check.MISSING, "as", 0, 6);
        Twins.refused(Check.BEYOND, "sheet", 4, 8, -1);
        Twins.refused(Check.BEYOND, "sheet", 0, 9, -1);
        Twins.refused(Check.MISSING, "write", 3, -1, 0);
        Twins.refused(Check.BEYOND, "copy", 3, 0, 4, 0, 1);
        Twins.refused(Check.BEYOND, "copy", -1, 0, 3, 0, 1);
        Twins.refused(Check.MISSING, "copy", 3, -1, 0, 0, 1);
        Twins.refused(Check.MISSING, "copy", 0, 0, 3, 0, -1);
        Twins.refused(Check.KIND, "copy", 0, -1, 1, -1, -1);
        Twins.refused(Check.KIND, "copy", 0, 9, 2, 9, 9);
    }

    /** Each finding once; each call's own findings stand with its promise. */
    private static void refusedCalls() {
        Check.sentence("FINDINGS", "one that answers a finding changes nothing but status().");
        Twins.refused(Check.BEYOND, "guns", 100);
        Twins.refusedFrom(Twins::crowded, Check.FULL, "person", 0, 0);
        Twins.refused(Check.KIND, "as", 9, 1);
        Twins.refused(Check.NONE, "meets", 0, 9999);
        Twins.refusedFrom(DaysTest::toLastDay, Check.STATE, "go", 1);
        Twins.refused(Check.MISSING, "load", 3);
        Twins.refused(Check.SIZE, "sheet", 0, 8, -1);
    }

    private static void quotients() {
        Check.sentence("FINDINGS", "Quotients are cut.");
        TunnelPeace x = Check.tunnel("general 0 bags 1;marshal 1 bags 1");
        Check.due("half of 3 steps", x.of(0, 6), 1);
        Check.due("half of 3 steps of a marshal", x.of(1, 6), 1);
    }

    private static void sets() {
        Check.sentence("FINDINGS", "Sets are told as bits;");
        TunnelPeace x = new TunnelPeace();
        Check.due("the empty one", x.who(0), 0);
        for (int i = 0; i < 8; i++) {
            x.person(0, 0);
            x.change(i, 2, 2 * i + 1);
            Check.due("one of people", x.who(2 * i + 1), 1 << i);
        }
        Check.due("cells", x.now(5), 0xaaaa);
        Check.due("all people", x.now(4), 255);
    }

    private static void leastOfSeveral() {
        Check.sentence("FINDINGS", "of several that would do the least number counts, where nothing else is told.");
        Check.due("who met most", Check.tunnel("walker 0 met 1;walker 0 met 3;walker 1 met 3;walker 1 met 3").now(7), 1);
        Check.due("nobody met", Check.tunnel("walker 0;walker 0").now(7), 0);
        Check.due("cells alike", Check.tunnel("walker 0 at 4;walker 1 at 11").placeFor(0, 1), 7);
        Check.due("all cells alike", Check.tunnel("walker 0").placeFor(0, 9), 0);
        Check.due("kinds alike", Check.tunnel("bride 0 at 7;walker 1 at 8").kindFor(0, 1), 4);
        Check.due("all kinds alike", Check.tunnel("bride 0").kindFor(0, 9), 0);
        Check.due("sets alike", Check.tunnel("walker 0 at 7;walker 1 at 8").leaveOut(1), 1);
    }

    private static void cells() {
        Check.sentence("CELLS", "CELLS 0 to 15 in a row; the stripe is between 7 and 8.");
        for (int cell = 0; cell < 16; cell++) {
            TunnelPeace x = Check.tunnel("walker 0;walker 1");
            x.change(0, 2, cell);
            Check.due("who(" + cell + ")", x.who(cell) & 1, 1);
            for (int other = 0; other < 16; other++) {
                x.change(1, 2, other);
                boolean next = cell == 7 && other == 8 || cell == 8 && other == 7;
                Check.due(cell + " and " + other, x.two(0, 1), cell == other || next ? 1 : 0);
            }
        }
        TunnelPeace x = Check.tunnel("soldier 0 at 15 season 0;soldier 1 at 0 season 0");
        x.go(1);
        Check.due("15 isn't next to 0", x.of(0, 2), 11);
        Check.due("0 isn't next to 15", x.of(1, 2), 4);
        Twins.range("who", 0, 0, 15, 0);
        Twins.range("place", 1, 0, 15, 0, 0);
        Twins.range("change", 2, 0, 15, 0, 2, 0);
    }

    private static void guns() {
        Check.sentence("CELLS", "GUNS (0 to 99; 50 at first).");
        Check.due("at first", new TunnelPeace().now(1), 50);
        Twins.range("guns", 0, 0, 99, 0);
        TunnelPeace x = new TunnelPeace();
        x.go(60);
        Check.due("never above", x.now(1), 99);
        TunnelPeace y = Check.tunnel("guns 1;child 0 at 7;child 1 at 7");
        y.go(60);
        Check.due("never below", y.now(1), 0);
    }

    private static void list() {
        Check.sentence("CELLS", "THE LIST: six PLACES, one for DAY modulo 6: a CELL to which all go (7 at first).");
        TunnelPeace x = Check.tunnel("soldier 0 at 4;soldier 1 at 3");
        for (int i = 0; i < 6; i++) {
            Check.due("at first, place " + i, x.listed(i), 7);
        }
        for (int i = 0; i < 6; i++) {
            x.place(i, i + 1);
        }
        for (int day = 0; day < 14; day++) {
            x.go(1);
            Check.due("all go on day " + day, x.who(day % 6 + 1), day == 6 || day == 12 ? 0 : 3);
        }
    }

    private static void howManyPeople() {
        Check.sentence("PEOPLE", "PEOPLE 0, 1, .. (at most 8),");
        TunnelPeace x = new TunnelPeace();
        for (int i = 0; i < 8; i++) {
            Check.due("not yet", x.of(i, 0), Check.BEYOND);
            Check.due("number", x.person(0, 0), i);
            Check.due("there now", x.of(i, 0), 0);
        }
        Check.due("a ninth", x.person(0, 0), Check.FULL);
        Check.due("no ninth", x.of(8, 0), Check.BEYOND);
        Check.due("eight", x.count(1), 8);
    }

    private static void kinds() {
        Check.sentence("PEOPLE", "of KINDS: 0 WALKER; 1 MERCHANT, 2 SOLDIER, 5 CHILD under WALKER; 3 GENERAL under SOLDIER;"
                + " 4 MARSHAL under GENERAL; 6 BRIDE under MERCHANT;");
        String[] words = {"walker", "merchant", "soldier", "general", "marshal", "child", "bride"};
        String[] asWhich = {"0", "01", "02", "023", "0234", "05", "016"};
        for (int kind = 0; kind < 7; kind++) {
            TunnelPeace x = Check.tunnel(words[kind] + " 0");
            Check.due(words[kind], x.of(0, 0), kind);
            x.hold(0, 0);
            for (int as = 0; as < 7; as++) {
                boolean is = asWhich[kind].indexOf('0' + as) >= 0;
                Check.due(words[kind] + " as " + words[as], x.as(0, as), is ? 0 : Check.KIND);
            }
        }
        Twins.range("person", 0, 0, 6, 0, 0);
        Twins.range("change", 2, 0, 6, 0, 0, 0);
    }

    private static void sides() {
        Check.sentence("PEOPLE", "each of a SIDE (0: at home in CELLS 0 to 7, its lift at 0; 1: in 8 to 15, its lift at 15),");
        for (int side = 0; side < 2; side++) {
            for (int cell = 0; cell < 16; cell++) {
                TunnelPeace x = Check.tunnel("child " + side + " at " + cell + " season 0 bags 5");
                boolean home = side == 0 ? cell <= 7 : cell >= 8;
                Check.due("abroad at " + cell + " of side " + side, x.now(3), home ? 0 : 1);
                x.go(1);
                boolean lift = side == 0 ? cell == 0 : cell == 15;
                Check.due("bags at " + cell + " of side " + side, x.of(0, 4), lift ? 0 : 5);
            }
        }
        Twins.range("person", 1, 0, 1, 0, 0);
        Twins.range("change", 2, 0, 1, 0, 1, 0);
    }

    private static void atFirst() {
        Check.sentence("PEOPLE", "AT a CELL (that of its lift at first),");
        TunnelPeace x = new TunnelPeace();
        for (int i = 0; i < 8; i++) {
            x.person(i % 7, i % 2);
            Check.due("of side " + i % 2, x.of(i, 2), i % 2 == 0 ? 0 : 15);
        }
        Check.sentence("PEOPLE", "with a SEASON (DAYS left; 0 to 99; 30 at first),");
        dueOfAll(x, "season", 3, 30);
        Twins.range("change", 2, 0, 99, 0, 3, 0);
        TunnelPeace y = Check.tunnel("walker 0");
        y.go(29);
        Check.due("days left", y.of(0, 3), 1);
        Check.sentence("PEOPLE", "BAGS (0 to 9; 0 at first),");
        dueOfAll(x, "bags", 4, 0);
        Twins.range("change", 2, 0, 9, 0, 4, 0);
        Check.sentence("PEOPLE", "MET (how often; 0 to 9999; 0 at first).");
        dueOfAll(x, "met", 5, 0);
        Twins.range("change", 2, 0, 9999, 0, 5, 0);
    }

    private static void dueOfAll(TunnelPeace x, String name, int what, int due) {
        for (int i = 0; i < 8; i++) {
            Check.due(name + " of kind " + i % 7, x.of(i, what), due);
        }
    }

    /** One of a kind, as what(6) to what(9) of it are asked. */
    private static TunnelPeace one(int kind) {
        TunnelPeace x = new TunnelPeace();
        x.person(kind, 0);
        return x;
    }

    /** Steps with 0, 1, 2, .. bags; the last number counts for all that are more. */
    private static void dueSteps(int kind, int... due) {
        for (int day = 0; day < 2; day++) {
            TunnelPeace x = one(kind);
            x.change(0, 3, 0);
            if (day > 0) {
                x.go(day);
            }
            for (int bags = 0; bags <= 9; bags++) {
                x.change(0, 4, bags);
                Check.due("steps with " + bags + " bags on day " + day, x.of(0, 6), due[Math.min(bags, due.length - 1)]);
            }
        }
    }

    private static void steps() {
        Check.sentence("STEPS", "STEPS (CELLS in a DAY): WALKER: 3, less BAGS (1 at least).");
        dueSteps(0, 3, 2, 1);
        Check.sentence("STEPS", "MERCHANT: as a WALKER, less 1 (1 at least).");
        dueSteps(1, 2, 1, 1);
        Check.sentence("STEPS", "BRIDE: as a MERCHANT, and 2.");
        dueSteps(6, 4, 3, 3);
        Check.sentence("STEPS", "SOLDIER: as a WALKER, and 1.");
        dueSteps(2, 4, 3, 2);
        Check.sentence("STEPS", "GENERAL: half (cut) of a SOLDIER (1 at least).");
        dueSteps(3, 2, 1, 1);
        Check.sentence("STEPS", "MARSHAL: as a GENERAL.");
        dueSteps(4, 2, 1, 1);
    }

    private static void childSteps() {
        Check.sentence("STEPS", "CHILD: 1, if DAY is odd, else 0.");
        TunnelPeace x = one(5);
        for (int day = 0; day < 5; day++) {
            for (int bags = 0; bags <= 9; bags += 3) {
                x.change(0, 4, bags);
                Check.due("steps on day " + day + " with " + bags + " bags", x.of(0, 6), day % 2);
            }
            x.go(1);
        }
    }

    /** Whether it crosses with guns 0, 1, 20, 21, 99, once for each row of due, told how often it met. */
    private static void dueCrosses(int kind, int[][] due) {
        int[] guns = {0, 1, 20, 21, 99};
        TunnelPeace x = one(kind);
        for (int[] row : due) {
            x.change(0, 5, row[0]);
            for (int i = 0; i < guns.length; i++) {
                x.guns(guns[i]);
                Check.due("crosses with met " + row[0] + " and guns " + guns[i], x.of(0, 7), row[i + 1]);
            }
        }
    }

    private static void crosses() {
        Check.sentence("CROSSES", "CROSSES (whether it goes over the stripe): WALKER: no.");
        dueCrosses(0, new int[][] {{0, 0, 0, 0, 0, 0}, {5, 0, 0, 0, 0, 0}, {9999, 0, 0, 0, 0, 0}});
        Check.sentence("CROSSES", "MERCHANT: no.");
        dueCrosses(1, new int[][] {{0, 0, 0, 0, 0, 0}, {5, 0, 0, 0, 0, 0}, {9999, 0, 0, 0, 0, 0}});
        Check.sentence("CROSSES", "BRIDE: if MET is 5 or more.");
        dueCrosses(6, new int[][] {{0, 0, 0, 0, 0, 0}, {4, 0, 0, 0, 0, 0}, {5, 1, 1, 1, 1, 1}, {6, 1, 1, 1, 1, 1},
            {9999, 1, 1, 1, 1, 1}});
        Check.sentence("CROSSES", "SOLDIER: if GUNS are 0.");
        dueCrosses(2, new int[][] {{0, 1, 0, 0, 0, 0}, {5, 1, 0, 0, 0, 0}, {9999, 1, 0, 0, 0, 0}});
        Check.sentence("CROSSES", "GENERAL: if GUNS are 20 or less.");
        dueCrosses(3, new int[][] {{0, 1, 1, 1, 0, 0}, {5, 1, 1, 1, 0, 0}, {9999, 1, 1, 1, 0, 0}});
        Check.sentence("CROSSES", "MARSHAL: as a GENERAL, or if MET is odd.");
        dueCrosses(4, new int[][] {{0, 1, 1, 1, 0, 0}, {1, 1, 1, 1, 1, 1}, {2, 1, 1, 1, 0, 0}, {9998, 1, 1, 1, 0, 0},
            {9999, 1, 1, 1, 1, 1}});
        Check.sentence("CROSSES", "CHILD: yes.");
        dueCrosses(5, new int[][] {{0, 1, 1, 1, 1, 1}, {5, 1, 1, 1, 1, 1}});
    }

    /** What it calms, and what the guns are behind a day with one meeting, the other one a soldier. */
    private static void dueCalms(int kind, int due) {
        TunnelPeace x = one(kind);
        Check.due("calms", x.of(0, 8), due);
        x.change(0, 2, 7);
        x.person(2, 1);
        x.change(1, 2, 8);
        x.guns(60);
        Check.due("guns", x.go(1), 65 - due);
    }

    private static void calms() {
        Check.sentence("CALMS", "CALMS (GUNS less, for each time that it meets): WALKER: 1.");
        dueCalms(0, 1);
        Check.due("thrice", Check.tunnel("guns 60;walker 0 at 7;soldier 1 at 7;soldier 1 at 8;soldier 1 at 9").go(1), 62);
        Check.sentence("CALMS", "MERCHANT: as a WALKER, and 1.");
        dueCalms(1, 2);
        Check.sentence("CALMS", "BRIDE: thrice a MERCHANT.");
        dueCalms(6, 6);
        Check.sentence("CALMS", "SOLDIER: 0.");
        dueCalms(2, 0);
        Check.sentence("CALMS", "GENERAL: as a SOLDIER, and 5.");
        dueCalms(3, 5);
        Check.sentence("CALMS", "MARSHAL: twice a GENERAL.");
        dueCalms(4, 10);
        Check.sentence("CALMS", "CHILD: as a WALKER, and 9.");
        dueCalms(5, 10);
    }

    /** What it tires on days 0, 1, .., 6, and what its season is behind them. */
    private static void dueTires(int kind, int... due) {
        TunnelPeace x = one(kind);
        int season = 30;
        for (int day = 0; day < due.length; day++) {
            Check.due("tires on day " + day, x.of(0, 9), due[day]);
            x.go(1);
            season -= due[day];
            Check.due("season behind day " + day, x.of(0, 3), season);
        }
    }

    private static void tires() {
        Check.sentence("TIRES", "TIRES (SEASON less in a DAY): WALKER: 1.");
        dueTires(0, 1, 1, 1, 1, 1, 1, 1);
        Check.sentence("TIRES", "MERCHANT: as a WALKER.");
        dueTires(1, 1, 1, 1, 1, 1, 1, 1);
        Check.sentence("TIRES", "BRIDE: 2, if DAY is a multiple of 3, else as a MERCHANT.");
        dueTires(6, 2, 1, 1, 2, 1, 1, 2);
        Check.sentence("TIRES", "SOLDIER: as a WALKER, and 1.");
        dueTires(2, 2, 2, 2, 2, 2, 2, 2);
        Check.sentence("TIRES", "GENERAL, MARSHAL: as a SOLDIER.");
        dueTires(3, 2, 2, 2, 2, 2, 2, 2);
        dueTires(4, 2, 2, 2, 2, 2, 2, 2);
        Check.sentence("TIRES", "CHILD: 0.");
        dueTires(5, 0, 0, 0, 0, 0, 0, 0);
    }
}
