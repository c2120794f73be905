/** Spots and sheets (Terms), and promises 30 to 36. */
final class SheetsTest {
    public static void main(String[] args) {
        spots();
        rows();
        hold();
        as();
        asFindings();
        sheet();
        sheetOfZeros();
        sheetFindings();
        write();
        writeFindings();
        copy();
        copyFindings();
        load();
        judge();
        Check.end("SheetsTest");
    }

    private static void spots() {
        Check.sentence("SPOTS", "SPOTS 0 to 9 hold one of PEOPLE or nothing (at first).");
        TunnelPeace x = Check.tunnel("child 0;child 1");
        for (int spot = 0; spot < 10; spot++) {
            Check.due("nothing at first", x.as(spot, 0), Check.MISSING);
        }
        Check.due("none holds", x.count(7), 0);
        for (int spot = 0; spot < 10; spot++) {
            x.hold(spot, spot % 2);
        }
        for (int spot = 0; spot < 10; spot++) {
            Check.due("each its own", x.as(spot, 0), spot % 2);
        }
        Check.due("all hold", x.count(7), 10);
    }

    private static void rows() {
        Check.sentence("SPOTS", "SHEETS 0 to 3: rows of at most 40 numbers of 8, 16 or 32 bits, or MISSING (at first).");
        TunnelPeace x = new TunnelPeace();
        for (int s = 0; s < 4; s++) {
            Check.due("missing at first", x.judge(s), Check.MISSING);
            for (int bits = 8; bits <= 32; bits *= 2) {
                Check.due("longest", x.sheet(s, bits, 40), 40);
                Check.due("last number", x.write(s, 39, 1), 1);
                Check.due("no number 40", x.write(s, 40, 1), Check.BEYOND);
                Check.due("empty", x.sheet(s, bits, 0), 0);
                Check.due("no number 0", x.write(s, 0, 1), Check.BEYOND);
            }
        }
        TunnelPeace y = Check.tunnel("child 0;child 0 at 1;child 0 at 2;child 0 at 3");
        for (int s = 0; s < 4; s++) {
            y.sheet(s, 8, 4);
            for (int i = 0; i < 4; i++) {
                y.write(s, i, s == 2 ? i : 9);
            }
        }
        for (int s = 0; s < 4; s++) {
            Check.due("each its own", y.judge(s), s == 2 ? 0 : 1);
        }
    }

    private static void hold() {
        Check.sentence("30", "A SPOT holds one of PEOPLE, or nothing (-1): 1.");
        TunnelPeace x = Check.tunnel("walker 0;child 1");
        Check.due("first spot", x.hold(0, 0), 1);
        Check.due("last spot", x.hold(9, 1), 1);
        Check.due("two hold", x.count(7), 2);
        Check.due("another one", x.hold(0, 1), 1);
        Check.due("is held", x.as(0, 5), 1);
        Check.due("nothing", x.hold(0, -1), 1);
        Check.due("nothing in an empty one", x.hold(5, -1), 1);
        Check.due("one holds", x.count(7), 1);
        Check.due("nothing is held", x.as(0, 0), Check.MISSING);
        x.hold(1, 1);
        Check.due("one in two", x.as(1, 5), x.as(9, 5));
        Check.due("nothing where nobody is", new TunnelPeace().hold(0, -1), 1);
        Check.sentence("30", "BEYOND.");
        Twins.range("hold", 0, 0, 9, 0, 0);
        Twins.range("hold", 0, 0, 9, 0, -1);
        Twins.range("hold", 1, -1, 3, 2, 0);
        Twins.refusedFrom(y -> { }, Check.BEYOND, "hold", 0, 0);
        Twins.refused(Check.BEYOND, "hold", 10, -2);
    }

    private static void as() {
        Check.sentence("31", "What a SPOT holds as one of a kind (0 to 6): the number.");
        TunnelPeace x = new TunnelPeace();
        int[] above = {-1, 0, 0, 2, 3, 0, 1};
        for (int kind = 0; kind < 7; kind++) {
            x.person(kind, kind % 2);
            x.hold(kind, kind);
        }
        for (int held = 0; held < 7; held++) {
            for (int kind = held; kind >= 0; kind = above[kind]) {
                Check.due(held + " as " + kind, x.as(held, kind), held);
            }
        }
        x.change(0, 0, 4);
        Check.due("of another kind now", x.as(0, 2), 0);
        Twins.unchanged(1, "as", 2, 1);
        Twins.unchanged(3, "as", 3, 6);
        Twins.unchanged(3, "as", 3, 1);
        Twins.unchanged(0, "as", 9, 0);
        Check.sentence("31", "KIND: it isn't of that kind, nor of one under it.");
        for (int held = 1; held < 7; held++) {
            String is = "";
            for (int kind = held; kind >= 0; kind = above[kind]) {
                is += kind;
            }
            for (int kind = 0; kind < 7; kind++) {
                if (is.indexOf('0' + kind) < 0) {
                    Check.due(held + " as " + kind, x.as(held, kind), Check.KIND);
                }
            }
        }
        Check.due("no soldier any longer", x.change(0, 0, 0), 4);
        Check.due("of another kind now", x.as(0, 2), Check.KIND);
        Twins.refused(Check.KIND, "as", 9, 1);
        Twins.refused(Check.KIND, "as", 2, 6);
    }

    private static void asFindings() {
        Check.sentence("31", "BEYOND.");
        Twins.range("as", 0, 0, 9, 0, 0);
        Twins.range("as", 1, 0, 6, 2, 0);
        Twins.range("as", 1, 0, 6, 0, 0);
        Check.sentence("31", "MISSING: it holds nothing.");
        for (int kind = 0; kind < 7; kind++) {
            Twins.refused(Check.MISSING, "as", 0, kind);
        }
        TunnelPeace x = Check.tunnel("child 0");
        x.hold(0, 0);
        x.hold(0, -1);
        Check.due("no longer", x.as(0, 5), Check.MISSING);
    }

    private static void sheet() {
        Check.sentence("32", "A sheet has n numbers, all 0, of 8, 16 or 32 bits; bits 0: it is MISSING: n (0 if it is MISSING).");
        TunnelPeace x = new TunnelPeace();
        for (int bits = 8; bits <= 32; bits *= 2) {
            for (int n : new int[] {0, 1, 39, 40}) {
                Check.due(n + " of " + bits, x.sheet(1, bits, n), n);
                Check.due("it is there", x.load(1), 0);
                Check.due("so many there are", x.copy(1, 0, 1, 0, n), n);
                Check.due("no more there are", x.copy(1, 0, 1, 0, n + 1), Check.BEYOND);
            }
        }
        for (int n : new int[] {0, 1, 40}) {
            x.sheet(1, 8, 3);
            Check.due("missing", x.sheet(1, 0, n), 0);
            Check.due("it is missing", x.judge(1), Check.MISSING);
            Check.due("missing again", x.sheet(1, 0, n), 0);
        }
    }

    private static void sheetOfZeros() {
        Check.sentence("32", "A sheet has n numbers, all 0, of 8, 16 or 32 bits;");
        for (int bits = 8; bits <= 32; bits *= 2) {
            dueZeros(Check.tunnel("walker 0"), bits);
            for (int between : new int[] {-1, 0, 8, 16, 32}) {
                TunnelPeace x = Check.tunnel("walker 0");
                x.sheet(0, bits, 40);
                for (int i = 0; i < 40; i++) {
                    x.write(0, i, 7);
                }
                x.sheet(0, between, 1);
                dueZeros(x, bits);
            }
        }
    }

    /** Sheet 0 is made anew; each number is brought to its begin, and is then told as a season. */
    private static void dueZeros(TunnelPeace x, int bits) {
        x.sheet(0, bits, 40);
        Check.due("number 0", x.load(0), 1);
        Check.due("number 0", x.of(0, 3), 0);
        for (int i = 1; i < 40; i++) {
            x.copy(0, i, 0, 0, 1);
            Check.due("number " + i, number(x), 0);
        }
    }

    private static void sheetFindings() {
        Check.sentence("32", "BEYOND: no such sheet, other bits.");
        Twins.range("sheet", 0, 0, 3, 0, 8, 1);
        Twins.range("sheet", 0, 0, 3, 0, 0, 0);
        for (int bits : new int[] {Check.LEAST, -32, -8, -1, 1, 4, 7, 9, 15, 17, 24, 31, 33, 64, 256, Check.MOST}) {
            Twins.refused(Check.BEYOND, "sheet", 1, bits, 2);
        }
        Check.sentence("32", "SIZE: n is below 0 (also with bits 0).");
        for (int bits : new int[] {0, 8, 16, 32}) {
            Twins.refused(Check.SIZE, "sheet", 1, bits, -1);
            Twins.refused(Check.SIZE, "sheet", 3, bits, Check.LEAST);
        }
        Twins.refused(Check.BEYOND, "sheet", -1, 8, -1);
        Twins.refused(Check.BEYOND, "sheet", 0, 1, -1);
        Check.sentence("32", "BEYOND: n is above 40.");
        for (int bits : new int[] {0, 8, 16, 32}) {
            Twins.refused(Check.BEYOND, "sheet", 1, bits, 41);
            Twins.refused(Check.BEYOND, "sheet", 3, bits, Check.MOST);
        }
    }

    /** Sheet 0 has one number: what it is, told by load() as somebody's season; -1 if it is below 0 or above 99. */
    private static int number(TunnelPeace x) {
        return x.load(0) == 1 ? x.of(0, 3) : -1;
    }

    private static void write() {
        Check.sentence("33", "Number i of a sheet becomes v (its lowest bits): 1.");
        int[] values = {7, 0x107, 0xff07, 0x10007, 0x7fff0007, 0xffff0007, 0xffffff07, 0x163, 0x164, 0x10063};
        int[][] due = {{7, 7, 7, 7, 7, 7, 7, 99, -1, 99}, {7, -1, -1, 7, 7, 7, -1, -1, -1, 99},
            {7, -1, -1, -1, -1, -1, -1, -1, -1, -1}};
        for (int b = 0; b < 3; b++) {
            TunnelPeace x = Check.tunnel("walker 0");
            x.sheet(0, 8 << b, 1);
            for (int v = 0; v < values.length; v++) {
                Check.due("write", x.write(0, 0, values[v]), 1);
                Check.due(Integer.toHexString(values[v]) + " in " + (8 << b), number(x), due[b][v]);
            }
            for (int v : new int[] {128, 255, 32768, 65535, Check.MOST, Check.LEAST}) {
                x.write(0, 0, v);
                int cut = b == 0 ? (byte) v : b == 1 ? (short) v : v;
                Check.due(v + " in " + (8 << b), number(x), cut >= 0 && cut < 100 ? cut : -1);
            }
        }
        TunnelPeace y = Check.tunnel("child 0 at 1;child 0 at 2;child 0 at 3");
        y.sheet(0, 8, 3);
        y.write(0, 1, 2);
        Check.due("the others stay", y.judge(0), 1);
        y.write(0, 0, 1);
        Check.due("the last one stays", y.judge(0), 3);
        y.write(0, 2, 3);
        Check.due("all three", y.judge(0), 0);
    }

    private static void writeFindings() {
        Check.sentence("33", "BEYOND: no such sheet.");
        Twins.range("write", 0, 0, 3, 0, 0, 9);
        Check.sentence("33", "MISSING.");
        Twins.refused(Check.MISSING, "write", 3, 0, 9);
        Twins.refused(Check.MISSING, "write", 3, -1, 9);
        Twins.refusedFrom(x -> { }, Check.MISSING, "write", 0, 0, 9);
        Check.sentence("33", "BEYOND: no such number.");
        Twins.range("write", 1, 0, 2, 0, 0, 9);
        Twins.range("write", 1, 0, 1, 1, 0, 9);
        Twins.range("write", 1, 0, 0, 2, 0, 9);
        Twins.refusedFrom(x -> x.sheet(0, 8, 0), Check.BEYOND, "write", 0, 0, 9);
        Twins.rangeFrom(x -> x.sheet(0, 8, 40), "write", 1, 0, 39, 0, 0, 9);
    }

    /** Four people at 1, 2, 3, 4, and a sheet 0 with these numbers. */
    private static TunnelPeace row() {
        TunnelPeace x = Check.tunnel("child 0 at 1;child 0 at 2;child 0 at 3;child 0 at 4");
        Check.tell(x, 0, 8, 1, 2, 3, 4);
        return x;
    }

    private static void dueNumbers(TunnelPeace x, int s, int... due) {
        for (int i = 0; i < due.length; i++) {
            x.change(i, 2, due[i]);
        }
        Check.due("numbers of sheet " + s, x.judge(s), 0);
    }

    private static void copy() {
        Check.sentence("34", "n numbers of a sheet from one on come to another one from one on (as they all were): n.");
        TunnelPeace x = row();
        x.sheet(1, 8, 4);
        Check.due("none", x.copy(0, 0, 1, 0, 0), 0);
        dueNumbers(x, 1, 0, 0, 0, 0);
        Check.due("one", x.copy(0, 3, 1, 0, 1), 1);
        dueNumbers(x, 1, 4, 0, 0, 0);
        Check.due("two", x.copy(0, 0, 1, 2, 2), 2);
        dueNumbers(x, 1, 4, 0, 1, 2);
        Check.due("all", x.copy(0, 0, 1, 0, 4), 4);
        dueNumbers(x, 1, 1, 2, 3, 4);
        dueNumbers(x, 0, 1, 2, 3, 4);
        Check.due("none at the end", x.copy(0, 4, 1, 4, 0), 0);
        Check.due("onto itself, up", x.copy(0, 0, 0, 1, 3), 3);
        dueNumbers(x, 0, 1, 1, 2, 3);
        Check.due("onto itself, down", x.copy(0, 1, 0, 0, 3), 3);
        dueNumbers(x, 0, 1, 2, 3, 3);
        Check.due("onto itself, in place", x.copy(0, 0, 0, 0, 4), 4);
        dueNumbers(x, 0, 1, 2, 3, 3);
        TunnelPeace longest = new TunnelPeace();
        longest.sheet(0, 32, 40);
        longest.sheet(3, 32, 40);
        Check.due("forty", longest.copy(0, 0, 3, 0, 40), 40);
        Check.due("the last one", longest.copy(3, 39, 0, 39, 1), 1);
        TunnelPeace wide = Check.tunnel("walker 0");
        for (int bits = 16; bits <= 32; bits *= 2) {
            wide.sheet(0, bits, 1);
            wide.sheet(1, bits, 1);
            wide.write(1, 0, 0x107);
            wide.copy(1, 0, 0, 0, 1);
            Check.due("all bits of " + bits, number(wide), -1);
        }
    }

    private static void copyFindings() {
        Check.sentence("34", "BEYOND: no such sheet (either).");
        Twins.range("copy", 0, 0, 3, 0, 0, 0, 0, 0);
        Twins.range("copy", 2, 0, 3, 0, 0, 0, 0, 0);
        Twins.refused(Check.BEYOND, "copy", 4, 0, 3, 0, 1);
        Twins.refused(Check.BEYOND, "copy", 3, 0, -1, 0, 1);
        Check.sentence("34", "MISSING: one is.");
        Twins.refused(Check.MISSING, "copy", 3, 0, 0, 0, 0);
        Twins.refused(Check.MISSING, "copy", 0, 0, 3, 0, 0);
        Twins.refused(Check.MISSING, "copy", 3, 0, 3, 0, 0);
        Twins.refused(Check.MISSING, "copy", 3, -1, 0, -1, -1);
        Check.sentence("34", "KIND: they are not of as many bits.");
        for (int s = 0; s < 3; s++) {
            for (int t = 0; t < 3; t++) {
                if (s != t) {
                    Twins.refused(Check.KIND, "copy", s, 0, t, 0, 1);
                    Twins.refused(Check.KIND, "copy", s, 0, t, 0, 0);
                    Twins.refused(Check.KIND, "copy", s, -1, t, 99, -1);
                }
            }
        }
        Check.sentence("34", "BEYOND: one has not so many, or from, to or n is below 0.");
        // Sheets 0 and 3 have three and two numbers of 8 bits.
        int[][] wrong = {{0, -1, 3, 0, 1}, {0, 0, 3, -1, 1}, {0, 0, 3, 0, -1}, {0, 0, 3, 0, 3}, {0, 2, 3, 0, 2}, {0, 0, 3, 1, 2},
            {3, 0, 0, 0, 3}, {3, 1, 0, 0, 2}, {3, 0, 0, 2, 2}, {0, 4, 3, 0, 0}, {0, 0, 3, 3, 0}, {0, 3, 3, 0, 1},
            {0, 0, 3, 2, 1}, {0, Check.MOST, 3, 0, 1}, {0, 0, 3, Check.MOST, 1}, {0, Check.MOST, 3, Check.MOST, Check.MOST},
            {0, 1, 3, 1, Check.MOST}, {0, Check.LEAST, 3, 0, 1}, {0, 0, 3, Check.LEAST, 1}, {0, 0, 3, 0, Check.LEAST},
            {0, -1, 3, -1, 1}, {0, -1, 3, 0, 0}, {0, 0, 3, -1, 0}, {0, 1, 0, 1, 3}, {0, 0, 0, 1, 3}, {0, 1, 0, 0, 3}};
        for (int[] row : wrong) {
            Twins.refusedFrom(SheetsTest::withFourth, Check.BEYOND, "copy", row);
        }
        int[][] right = {{0, 0, 3, 0, 2}, {0, 1, 3, 0, 2}, {3, 0, 0, 1, 2}, {0, 3, 3, 2, 0}, {0, 2, 3, 1, 1}, {0, 0, 0, 0, 3}};
        for (int[] row : right) {
            TunnelPeace x = new TunnelPeace();
            withFourth(x);
            Check.due(Calls.told("copy", row), Calls.call(x, "copy", row), row[4]);
        }
    }

    private static void withFourth(TunnelPeace x) {
        Twins.rich(x);
        Check.tell(x, 3, 8, 11, 12);
    }

    private static void dueSeasons(TunnelPeace x, int... due) {
        for (int i = 0; i < due.length; i++) {
            Check.due("season of " + i, x.of(i, 3), due[i]);
        }
    }

    private static void load() {
        Check.sentence("35", "Numbers of a sheet, from its begin on, become SEASONS of PEOPLE 0, 1, ..: how many came.");
        TunnelPeace x = Check.tunnel("walker 0;walker 0;walker 0");
        Check.tell(x, 0, 8);
        Check.due("empty", x.load(0), 0);
        Check.tell(x, 0, 8, 0, 99);
        Check.due("two", x.load(0), 2);
        dueSeasons(x, 0, 99, 30);
        for (int b = 0; b < 3; b++) {
            Check.tell(x, b, 8 << b, 1 + b, 2 + b, 3 + b);
            Check.due("three of " + (8 << b), x.load(b), 3);
            dueSeasons(x, 1 + b, 2 + b, 3 + b);
        }
        Check.sentence("35", "It ends at the first that isn't 0 to 99, or for which there is nobody.");
        Check.tell(x, 0, 8, 5, 100, 6);
        Check.due("100", x.load(0), 1);
        dueSeasons(x, 5, 4, 5);
        Check.tell(x, 0, 8, 6, 7, -1);
        Check.due("-1", x.load(0), 2);
        dueSeasons(x, 6, 7, 5);
        Check.tell(x, 0, 8, 200, 7, 8);
        Check.due("the first one", x.load(0), 0);
        dueSeasons(x, 6, 7, 5);
        Check.tell(x, 1, 32, 9, 0x10000, 0);
        Check.due("far too many", x.load(1), 1);
        dueSeasons(x, 9, 7, 5);
        Check.tell(x, 0, 8, 1, 2, 3, 4);
        Check.due("nobody for the fourth", x.load(0), 3);
        dueSeasons(x, 1, 2, 3);
        TunnelPeace empty = new TunnelPeace();
        empty.sheet(0, 8, 40);
        Check.due("nobody at all", empty.load(0), 0);
        for (int i = 0; i < 8; i++) {
            empty.person(0, 0);
        }
        Check.due("eight of forty", empty.load(0), 8);
        Check.due("none has a season", empty.now(4), 0);
        Check.sentence("35", "BEYOND: no such sheet.");
        Twins.range("load", 0, 0, 3, 0);
        Check.sentence("35", "MISSING.");
        Twins.refused(Check.MISSING, "load", 3);
    }

    private static void judge() {
        Check.sentence("36", "THE READER: numbers of a sheet are CELLS of PEOPLE 0, 1, ..: 0 if so; else 1 and the place of the first that isn't"
                + " so.");
        int[][] told = {{}, {5}, {5, 15}, {4, 15}, {6}, {5, 14}, {5, -1}, {5, 15, 0}, {-1}, {4, 14}, {5, 15, 3, 4}};
        int[] due = {0, 0, 0, 1, 1, 2, 2, 3, 1, 1, 3};
        for (int b = 0; b < 3; b++) {
            TunnelPeace x = Check.tunnel("walker 0 at 5;walker 1");
            for (int i = 0; i < told.length; i++) {
                Check.tell(x, 0, 8 << b, told[i]);
                Check.due("row " + i + " of " + (8 << b), x.judge(0), due[i]);
            }
        }
        TunnelPeace empty = new TunnelPeace();
        empty.sheet(0, 8, 0);
        Check.due("nobody, no number", empty.judge(0), 0);
        empty.sheet(0, 8, 40);
        Check.due("nobody", empty.judge(0), 1);
        for (int i = 0; i < 8; i++) {
            empty.person(0, 0);
        }
        Check.due("eight of forty", empty.judge(0), 9);
        Twins.unchanged(1, "judge", 0);
        Check.sentence("36", "BEYOND: no such sheet.");
        Twins.range("judge", 0, 0, 3, 0);
        Check.sentence("36", "MISSING.");
        Twins.refused(Check.MISSING, "judge", 3);
    }
}
