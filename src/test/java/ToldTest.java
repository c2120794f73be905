/** Promises 22 and 23: cells and kinds by told places. */
final class ToldTest {
    public static void main(String[] args) {
        fits();
        kinds();
        numbersOfSheets();
        findings();
        Check.end("ToldTest");
    }

    private static void dueFits(TunnelPeace x, int person, int set, int... told) {
        Check.tell(x, told);
        Check.due("22: fits", x.fits(0, person), set);
    }

    private static void dueKinds(TunnelPeace x, int person, int set, int... told) {
        Check.tell(x, told);
        Check.due("23: kinds", x.kinds(0, person), set);
    }

    private static void fits() {
        TunnelPeace x = Check.tunnel("walker 0;child 0;walker 1 season 0");
        dueFits(x, 0, 0xf0, 7);
        dueFits(x, 0, 0xf00, 8);
        dueFits(x, 0, 1, 3, 6, 7, 7);
        dueFits(x, 0, 2, 4, 7);
        dueFits(x, 0, 0, 3, 6, 7, 8);
        dueFits(x, 0, 0xffff);
        dueFits(x, 0, 0xffff, -1, -1, -1);
        dueFits(x, 0, 0, 16);
        dueFits(x, 0, 0, -2);
        dueFits(x, 1, 0x80, 7);
        dueFits(x, 1, 0x1c0, -1, 7);
        dueFits(x, 2, 0xf000, 15);
        Check.due("22: nothing changes", x.of(0, 2), 0);
        Check.due("22: no day", x.now(0), 0);
        // Only one that met the other general on the first day has stilled the guns enough to cross.
        TunnelPeace y = Check.tunnel("guns 25;general 0;general 1 at 9;place 0 9");
        dueFits(y, 0, 0xf00, 9, 7);
        dueFits(y, 0, 0xff8, -1, 7);
    }

    private static void kinds() {
        TunnelPeace x = Check.tunnel("walker 0 at 3");
        dueKinds(x, 0, 68, 7);
        dueKinds(x, 0, 26, 5);
        dueKinds(x, 0, 32, 3);
        dueKinds(x, 0, 1, 6);
        dueKinds(x, 0, 0, 4);
        dueKinds(x, 0, 127);
        dueKinds(x, 0, 32, 3, 4, 4, 5);
        dueKinds(x, 0, 95, -1, 7);
        Check.due("23: nothing changes", x.of(0, 0), 0);
        Check.due("23: no day", x.now(0), 0);
    }

    private static void numbersOfSheets() {
        TunnelPeace x = Check.tunnel("walker 0");
        int[] bits = {8, 16, 32};
        for (int i = 0; i < 3; i++) {
            x.sheet(i, bits[i], 1);
            x.write(i, 0, -1);
            Check.due("22: -1 of " + bits[i], x.fits(i, 0), 0xffff);
            x.write(i, 0, 0xff);
            Check.due("22: 255 of " + bits[i], x.fits(i, 0), i == 0 ? 0xffff : 0);
            x.write(i, 0, 0xffff);
            Check.due("22: 65535 of " + bits[i], x.fits(i, 0), i < 2 ? 0xffff : 0);
            x.write(i, 0, 0x10007);
            Check.due("22: 65543 of " + bits[i], x.fits(i, 0), i < 2 ? 0xf0 : 0);
        }
        x.sheet(3, 8, 40);
        for (int i = 0; i < 39; i++) {
            x.write(3, i, -1);
        }
        Check.due("22: home behind 40 days", x.fits(3, 0), 0xffff);
        x.write(3, 39, 1);
        Check.due("22: 40th number", x.fits(3, 0), 0);
    }

    private static void findings() {
        TunnelPeace x = Check.tunnel("walker 0");
        x.sheet(0, 8, 1);
        for (int s : new int[] {-1, 4}) {
            Check.due("22: no such sheet", x.fits(s, 0), Check.BEYOND);
            Check.due("23: no such sheet", x.kinds(s, 0), Check.BEYOND);
        }
        for (int person : new int[] {-1, 1}) {
            Check.due("22: missing ahead of nobody", x.fits(1, person), Check.MISSING);
            Check.due("23: missing ahead of nobody", x.kinds(1, person), Check.MISSING);
            Check.due("22: nobody", x.fits(0, person), Check.BEYOND);
            Check.due("23: nobody", x.kinds(0, person), Check.BEYOND);
        }
        Check.due("22: missing", x.fits(3, 0), Check.MISSING);
        Check.due("23: missing", x.kinds(3, 0), Check.MISSING);
    }
}
