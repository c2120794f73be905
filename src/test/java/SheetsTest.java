/** Promises 30 to 36: spots and sheets. */
final class SheetsTest {
    public static void main(String[] args) {
        hold();
        as();
        sheet();
        write();
        copy();
        load();
        judge();
        Check.end("SheetsTest");
    }

    private static void hold() {
        TunnelPeace x = Check.tunnel("walker 0;child 1");
        Check.due("30: first spot", x.hold(0, 0), 1);
        Check.due("30: last spot", x.hold(9, 1), 1);
        Check.due("30: two hold", x.count(7), 2);
        int[][] wrong = {{-1, 0}, {10, 0}, {0, -2}, {0, 2}};
        for (int[] row : wrong) {
            Check.due("30: beyond", x.hold(row[0], row[1]), Check.BEYOND);
        }
        Check.due("30: unchanged", x.as(0, 0), 0);
        Check.due("30: nothing", x.hold(0, -1), 1);
        Check.due("30: one holds", x.count(7), 1);
        Check.due("30: nothing is held", x.as(0, 0), Check.MISSING);
        x.hold(1, 1);
        Check.due("30: one in two", x.as(1, 5), x.as(9, 5));
    }

    private static void as() {
        TunnelPeace x = new TunnelPeace();
        int[] above = {-1, 0, 0, 2, 3, 0, 1};
        for (int kind = 0; kind < 7; kind++) {
            x.person(kind, kind % 2);
            x.hold(kind, kind);
        }
        for (int held = 0; held < 7; held++) {
            for (int kind = 0; kind < 7; kind++) {
                boolean is = false;
                for (int k = held; k >= 0; k = above[k]) {
                    is |= k == kind;
                }
                Check.due("31: " + held + " as " + kind, x.as(held, kind), is ? held : Check.KIND);
            }
        }
        Check.due("31: nothing", x.as(7, 0), Check.MISSING);
        int[][] wrong = {{-1, 0}, {10, 0}, {7, -1}, {7, 7}};
        for (int[] row : wrong) {
            Check.due("31: beyond", x.as(row[0], row[1]), Check.BEYOND);
        }
        x.change(0, 0, 4);
        Check.due("31: another kind now", x.as(0, 2), 0);
    }

    private static void sheet() {
        TunnelPeace x = new TunnelPeace();
        Check.due("32: 8", x.sheet(0, 8, 3), 3);
        Check.due("32: 16", x.sheet(3, 16, 40), 40);
        Check.due("32: 32", x.sheet(1, 32, 0), 0);
        Check.due("32: it is there", x.judge(1), 0);
        Check.due("32: missing", x.sheet(0, 0, 7), 0);
        Check.due("32: it is missing", x.judge(0), Check.MISSING);
        Check.due("32: no sheet -1", x.sheet(-1, 8, -1), Check.BEYOND);
        Check.due("32: no sheet 4", x.sheet(4, 8, 1), Check.BEYOND);
        for (int bits : new int[] {-8, 1, 7, 24, 64}) {
            Check.due("32: other bits", x.sheet(3, bits, -1), Check.BEYOND);
        }
        Check.due("32: size", x.sheet(3, 8, -1), Check.SIZE);
        Check.due("32: size with bits 0", x.sheet(3, 0, Integer.MIN_VALUE), Check.SIZE);
        Check.due("32: above 40", x.sheet(3, 8, 41), Check.BEYOND);
        Check.due("32: above 40 with bits 0", x.sheet(3, 0, 41), Check.BEYOND);
        Check.due("32: unchanged", x.write(3, 39, 1), 1);
        TunnelPeace y = Check.tunnel("walker 0 at 3");
        y.sheet(0, 8, 1);
        y.write(0, 0, 3);
        Check.due("32: written", y.judge(0), 0);
        y.sheet(0, 8, 1);
        Check.due("32: all 0 again", y.judge(0), 1);
        y.change(0, 2, 0);
        Check.due("32: all 0", y.judge(0), 0);
    }

    private static void write() {
        TunnelPeace x = Check.tunnel("walker 0 at 7");
        Check.due("33: no sheet -1", x.write(-1, 0, 0), Check.BEYOND);
        Check.due("33: no sheet 4", x.write(4, 0, 0), Check.BEYOND);
        Check.due("33: missing", x.write(0, -1, 0), Check.MISSING);
        x.sheet(0, 8, 2);
        Check.due("33: no number -1", x.write(0, -1, 0), Check.BEYOND);
        Check.due("33: no number 2", x.write(0, 2, 0), Check.BEYOND);
        Check.due("33: last number", x.write(0, 1, 0), 1);
        int[] bits = {8, 16, 32};
        int[] values = {7, 0x107, 0x10007};
        for (int b = 0; b < 3; b++) {
            x.sheet(1, bits[b], 1);
            for (int v = 0; v < 3; v++) {
                x.write(1, 0, values[v]);
                Check.due("33: " + values[v] + " in " + bits[b], x.judge(1), v == 0 || b == 0 || b == 1 && v == 2 ? 0 : 1);
            }
        }
    }

    private static void copy() {
        TunnelPeace x = Check.tunnel("walker 0 at 1;walker 0 at 2;walker 0 at 3;walker 0 at 4");
        Check.tell(x, 1, 2, 3, 4);
        x.sheet(1, 8, 4);
        Check.due("34: all", x.copy(0, 0, 1, 0, 4), 4);
        Check.due("34: as they are", x.judge(1), 0);
        Check.due("34: onto itself, up", x.copy(0, 0, 0, 1, 3), 3);
        x.change(1, 2, 1);
        x.change(2, 2, 2);
        x.change(3, 2, 3);
        Check.due("34: as they all were", x.judge(0), 0);
        Check.due("34: onto itself, down", x.copy(0, 1, 0, 0, 3), 3);
        x.change(1, 2, 2);
        x.change(2, 2, 3);
        Check.due("34: as they all were, down", x.judge(0), 0);
        Check.due("34: none", x.copy(0, 4, 1, 4, 0), 0);
        x.sheet(2, 16, 4);
        int m = Integer.MAX_VALUE;
        int[][] wrong = {{0, -1, 1, 0, 1}, {0, 0, 1, -1, 1}, {0, 0, 1, 0, -1}, {0, 2, 1, 0, 3}, {0, 0, 1, 2, 3},
            {0, 5, 1, 0, 0}, {0, 0, 1, 5, 0}, {0, m, 1, 0, m}, {0, 1, 1, 0, m}, {-1, 0, 1, 0, 1}, {0, 0, 4, 0, 1},
            {4, 0, 3, 0, 1}, {3, 0, -1, 0, 1}};
        for (int[] row : wrong) {
            Check.due("34: beyond", x.copy(row[0], row[1], row[2], row[3], row[4]), Check.BEYOND);
        }
        Check.due("34: missing", x.copy(0, -1, 3, 0, 1), Check.MISSING);
        Check.due("34: missing first", x.copy(3, 0, 2, 0, -1), Check.MISSING);
        Check.due("34: kind", x.copy(0, -1, 2, 0, 1), Check.KIND);
    }

    private static void load() {
        TunnelPeace x = Check.tunnel("walker 0;walker 0;walker 0");
        Check.due("35: no sheet -1", x.load(-1), Check.BEYOND);
        Check.due("35: no sheet 4", x.load(4), Check.BEYOND);
        Check.due("35: missing", x.load(0), Check.MISSING);
        Check.tell(x, 0, 99);
        Check.due("35: two", x.load(0), 2);
        int[] due = {0, 99, 30};
        for (int i = 0; i < 3; i++) {
            Check.due("35: season of " + i, x.of(i, 3), due[i]);
        }
        Check.tell(x, 5, 100, 5);
        Check.due("35: 100", x.load(0), 1);
        Check.due("35: came", x.of(0, 3), 5);
        Check.due("35: came no more", x.of(2, 3), 30);
        Check.tell(x, 6, 7, -1);
        Check.due("35: -1", x.load(0), 2);
        Check.tell(x, 1, 2, 3, 4);
        Check.due("35: nobody", x.load(0), 3);
        Check.tell(x);
        Check.due("35: empty", x.load(0), 0);
    }

    private static void judge() {
        TunnelPeace x = Check.tunnel("walker 0 at 5;walker 1");
        Check.due("36: no sheet -1", x.judge(-1), Check.BEYOND);
        Check.due("36: no sheet 4", x.judge(4), Check.BEYOND);
        Check.due("36: missing", x.judge(0), Check.MISSING);
        int[][] told = {{}, {5}, {5, 15}, {4, 15}, {5, 14}, {5, -1}, {5, 15, 0}, {-1}};
        int[] due = {0, 0, 0, 1, 2, 2, 3, 1};
        for (int i = 0; i < told.length; i++) {
            Check.tell(x, told[i]);
            Check.due("36: row " + i, x.judge(0), due[i]);
        }
    }
}
