/** Promises 37 to 41: images, counts and the status. */
final class ImagesTest {
    public static void main(String[] args) {
        imageAndUndo();
        latestStays();
        tear();
        count();
        status();
        findingsChangeNothing();
        Check.end("ImagesTest");
    }

    private static void imageAndUndo() {
        TunnelPeace x = Check.tunnel("walker 0 at 3 season 9 bags 2 met 4;guns 8;place 2 3");
        x.hold(1, 0);
        x.seed(5);
        x.go(1);
        x.sheet(0, 8, 1);
        Check.due("37: image", x.image(), 1);
        int[] was = new int[6];
        for (int what = 0; what < 6; what++) {
            was[what] = x.of(0, what);
        }
        Check.read(x, "child 1;guns 3;place 2 9");
        x.hold(1, -1);
        x.hold(2, 1);
        x.go(7);
        x.stroll(3);
        x.change(0, 0, 4);
        x.change(0, 1, 1);
        x.change(0, 4, 7);
        x.write(0, 0, 6);
        x.feed(65, 1);
        x.guns(100);
        Check.due("38: day", x.undo(), 1);
        for (int what = 0; what < 6; what++) {
            Check.due("38: of 0 " + what, x.of(0, what), was[what]);
        }
        Check.due("38: day then", x.now(0), 1);
        Check.due("38: guns", x.now(1), 13);
        Check.due("38: people", x.count(1), 1);
        Check.due("38: z", x.count(6), 5);
        Check.due("38: spots", x.count(7), 1);
        Check.due("38: spot 1", x.as(1, 0), 0);
        Check.due("38: list", x.listed(2), 3);
        Check.due("38: the tape stays", x.count(5), 1);
        x.change(0, 2, 6);
        Check.due("38: sheets stay", x.judge(0), 0);
        Check.due("38: status stays", x.status(0), 1);
    }

    private static void latestStays() {
        TunnelPeace x = new TunnelPeace();
        Check.due("38: none", x.undo(), Check.NONE);
        x.image();
        x.go(2);
        x.image();
        x.go(3);
        Check.due("38: latest", x.undo(), 2);
        Check.due("38: it stays", x.undo(), 2);
        x.go(4);
        Check.due("38: it stays yet", x.undo(), 2);
        x.person(0, 0);
        Check.due("38: it is no part of it", x.undo(), 2);
        Check.due("38: nobody", x.count(1), 0);
    }

    private static void tear() {
        TunnelPeace x = new TunnelPeace();
        Check.due("39: nothing", x.tear(), 0);
        x.image();
        x.image();
        Check.due("39: something", x.tear(), 1);
        Check.due("39: nothing then", x.tear(), 0);
        Check.due("38: none", x.undo(), Check.NONE);
        x.image();
        Check.due("38: kept anew", x.undo(), 0);
    }

    private static void count() {
        TunnelPeace x = Check.tunnel("walker 0 met 4;walker 1 season 0 met 3;child 0;guns 77");
        x.hold(3, 1);
        x.hold(4, 1);
        x.seed(-9);
        x.feed(0, 3);
        int[] due = {0, 3, 77, 7, 2, 3, -9, 2};
        for (int what = 0; what < due.length; what++) {
            Check.due("40: " + what, x.count(what), due[what]);
        }
        x.go(4);
        Check.due("40: day", x.count(0), 4);
        Check.due("40: below", x.count(-1), Check.BEYOND);
        Check.due("40: above", x.count(8), Check.BEYOND);
    }

    private static void status() {
        TunnelPeace x = new TunnelPeace();
        for (int which = -1; which < 7; which++) {
            Check.due("41: first " + which, x.status(which), 0);
        }
        Check.due("41: below", x.status(-2), Check.BEYOND);
        Check.due("41: above", x.status(7), Check.BEYOND);
        Check.due("41: counted", x.status(0), 2);
        x.person(0, 0);
        x.hold(0, 0);
        x.as(0, 1);
        x.undo();
        x.stills(0);
        x.lapses();
        x.as(1, 0);
        x.judge(0);
        x.load(0);
        x.sheet(0, 8, -1);
        for (int i = 0; i < 30; i++) {
            x.feed(0, 4);
        }
        x.feed(0, 1);
        x.text();
        int[] due = {2, 1, 1, 2, 0, 3, 1};
        for (int which = 0; which < due.length; which++) {
            Check.due("41: " + which, x.status(which), due[which]);
        }
        Check.due("41: all", x.status(-1), 10);
        x.image();
        x.go(0);
        x.undo();
        Check.due("41: undo takes none back", x.status(-1), 11);
    }

    private static void findingsChangeNothing() {
        TunnelPeace x = Check.tunnel("walker 0 at 3;walker 1 at 9");
        x.go(100);
        x.stroll(100);
        x.person(9, 9);
        x.change(0, 2, 99);
        x.place(3, 99);
        x.hold(0, 9);
        x.load(0);
        Check.due("41: seven", x.status(-1), 7);
        Check.due("41: day", x.now(0), 0);
        Check.due("41: z", x.count(6), 1);
        Check.due("41: cells", x.now(5), 1 << 3 | 1 << 9);
        Check.due("41: people", x.count(1), 2);
        Check.due("41: spots", x.count(7), 0);
    }
}
