/** Promises 22 and 23: cells and kinds by told places. */
final class ToldTest {
    public static void main(String[] args) {
        fits();
        fitsByEachNumber();
        numbersOfSheets();
        kinds();
        fitsFindings();
        kindsFindings();
        Check.end("ToldTest");
    }

    private static void dueFits(TunnelPeace x, int person, int set, int... told) {
        Check.tell(x, 0, 8, told);
        Check.due("fits", x.fits(0, person), set);
    }

    private static void dueKinds(TunnelPeace x, int person, int set, int... told) {
        Check.tell(x, 0, 8, told);
        Check.due("kinds", x.kinds(0, person), set);
    }

    private static void fits() {
        Check.sentence("22", "CELLS AT which one could be now, as a set, so that its CELL behind each DAY further on is as a sheet tells"
                + " (number i: behind i + 1 DAYS; -1: any).");
        TunnelPeace x = Check.tunnel("walker 0;child 0;walker 1 season 0");
        dueFits(x, 0, 0xf0, 7);
        dueFits(x, 0, 0xf00, 8);
        dueFits(x, 0, 1, 3, 6, 7, 7);
        dueFits(x, 0, 2, 4, 7);
        dueFits(x, 0, 0, 3, 6, 7, 8);
        dueFits(x, 0, 0xffff);
        dueFits(x, 0, 0xffff, -1, -1, -1);
        dueFits(x, 0, 0, 15);
        dueFits(x, 0, 0x8000, 12);
        dueFits(x, 0, 0, 16);
        dueFits(x, 0, 0, -2);
        dueFits(x, 0, 0, -128);
        dueFits(x, 0, 0, 127);
        dueFits(x, 1, 0x80, 7);
        dueFits(x, 1, 0x1c0, -1, 7);
        dueFits(x, 2, 0xf000, 15);
        dueFits(x, 2, 0xf000, 15, -1);
        Check.due("where it is now stays", x.of(0, 2), 0);
        TunnelPeace home = Check.tunnel("child 0 season 0;child 1");
        dueFits(home, 0, 1, 0);
        dueFits(home, 0, 0x8000, 15);
        // Only one that met the other general on the first day has stilled the guns enough to cross.
        TunnelPeace y = Check.tunnel("guns 25;general 0;general 1 at 9;place 0 9");
        dueFits(y, 0, 0xf00, 9, 7);
        dueFits(y, 0, 0xff8, -1, 7);
    }

    private static void fitsByEachNumber() {
        Check.sentence("22", "(number i: behind i + 1 DAYS; -1: any).");
        TunnelPeace x = Check.tunnel(PlanTest.SLOW);
        x.sheet(3, 8, 40);
        for (int i = 0; i < 40; i++) {
            x.write(3, i, -1);
        }
        Check.due("40 times any", x.fits(3, 0), 0xffff);
        x.write(3, 39, 15);
        Check.due("at 15 behind 40 days", x.fits(3, 0), 0xff80);
        x.write(3, 39, -1);
        x.write(3, 38, 15);
        Check.due("at 15 behind 39 days", x.fits(3, 0), 0xff00);
        x.write(3, 38, -1);
        x.write(3, 0, 9);
        Check.due("at 9 behind a day", x.fits(3, 0), 1 << 9);
        Twins.unchanged(0, "fits", 0, 0);
        Twins.unchanged(1 << 6, "fits", 2, 0);
    }

    /** As numbers have a sign, -1 can stand in each sheet. */
    private static void numbersOfSheets() {
        Check.sentence("22", "-1: any");
        TunnelPeace x = Check.tunnel("walker 0");
        int[] bits = {8, 16, 32};
        for (int i = 0; i < 3; i++) {
            x.sheet(i, bits[i], 1);
            x.write(i, 0, -1);
            Check.due("-1 of " + bits[i], x.fits(i, 0), 0xffff);
            x.write(i, 0, 0xff);
            Check.due("255 of " + bits[i], x.fits(i, 0), i == 0 ? 0xffff : 0);
            x.write(i, 0, 0xffff);
            Check.due("65535 of " + bits[i], x.fits(i, 0), i < 2 ? 0xffff : 0);
            x.write(i, 0, 0x10007);
            Check.due("65543 of " + bits[i], x.fits(i, 0), i < 2 ? 0xf0 : 0);
            x.write(i, 0, 0x7fffffff);
            Check.due("the greatest of " + bits[i], x.fits(i, 0), i < 2 ? 0xffff : 0);
        }
    }

    private static void kinds() {
        Check.sentence("23", "KINDS that it could be of, as a set, likewise.");
        TunnelPeace x = Check.tunnel("walker 0 at 3");
        dueKinds(x, 0, 68, 7);
        dueKinds(x, 0, 26, 5);
        dueKinds(x, 0, 32, 3);
        dueKinds(x, 0, 1, 6);
        dueKinds(x, 0, 0, 4);
        dueKinds(x, 0, 127);
        dueKinds(x, 0, 127, -1);
        dueKinds(x, 0, 0, 16);
        dueKinds(x, 0, 0, -2);
        dueKinds(x, 0, 32, 3, 4, 4, 5);
        dueKinds(x, 0, 95, -1, 7);
        Check.due("what it is stays", x.of(0, 0), 0);
        TunnelPeace y = Check.tunnel(PlanTest.SLOW);
        y.sheet(1, 32, 40);
        for (int i = 0; i < 39; i++) {
            y.write(1, i, -1);
        }
        Check.due("home behind 40 days", y.kinds(1, 0), 95);
        y.write(1, 39, 15);
        Check.due("at 15 behind 40 days", y.kinds(1, 0), 32);
        Twins.unchanged(0, "kinds", 2, 1);
        Twins.unchanged(59, "kinds", 2, 0);
    }

    private static void fitsFindings() {
        Check.sentence("22", "BEYOND: no such sheet.");
        dueNoSheet("fits");
        Check.sentence("22", "MISSING.");
        dueMissing("fits");
        Check.sentence("22", "BEYOND: no such one.");
        dueNobody("fits");
    }

    private static void kindsFindings() {
        Check.sentence("23", "BEYOND: no such sheet.");
        dueNoSheet("kinds");
        Check.sentence("23", "MISSING.");
        dueMissing("kinds");
        Check.sentence("23", "BEYOND: no such one.");
        dueNobody("kinds");
    }

    private static void dueNoSheet(String name) {
        Twins.range(name, 0, 0, 3, 0, 0);
        Twins.refused(Check.BEYOND, name, 4, 4);
        Twins.refused(Check.BEYOND, name, -1, -1);
    }

    private static void dueMissing(String name) {
        Twins.refused(Check.MISSING, name, 3, 0);
        Twins.refused(Check.MISSING, name, 3, 4);
        Twins.refused(Check.MISSING, name, 3, -1);
        Twins.refusedFrom(x -> { }, Check.MISSING, name, 0, 0);
    }

    private static void dueNobody(String name) {
        Twins.range(name, 1, 0, 3, 0, 0);
        Twins.refusedFrom(x -> x.sheet(0, 8, 0), Check.BEYOND, name, 0, 0);
    }
}
