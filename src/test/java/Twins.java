import java.util.ArrayList;
import java.util.List;
import java.util.function.Consumer;

/**
 * Two objects made by the same calls: one gets a call more, and then both are asked for all that can be told
 * of them, so that a call that must leave something as it was can be seen to do so.
 */
final class Twins {
    private Twins() {
    }

    /** Four people on day 1; spots, sheets, a tape, an image and some findings that differ from the first ones. */
    static void rich(TunnelPeace x) {
        Check.read(x, "walker 0 at 5 bags 2;merchant 1 at 9 met 7;child 1 at 8;place 1 3;place 4 12;guns 70");
        x.seed(77);
        x.hold(2, 1);
        x.hold(9, 0);
        x.image();
        x.go(1);
        Check.read(x, "bride 0 at 3 season 12 met 4;guns 61;place 0 4");
        x.change(1, 3, 20);
        x.hold(3, 3);
        x.seed(-5);
        Check.tell(x, 0, 8, 5, -1, 99);
        Check.tell(x, 1, 16, 7, 300);
        Check.tell(x, 2, 32, 5);
        Check.feed(x, "guns 3");
        x.go(0);
        x.as(0, 0);
    }

    /** The same with eight people. */
    static void crowded(TunnelPeace x) {
        rich(x);
        for (int i = 4; i < 8; i++) {
            x.person(i - 2, i % 2);
        }
    }

    /** A call on what rich() makes answers a finding, which is counted, and changes nothing else. */
    static void refused(long finding, String name, int... a) {
        refusedFrom(Twins::rich, finding, name, a);
    }

    static void refusedFrom(Consumer<TunnelPeace> setup, long finding, String name, int... a) {
        compare(setup, finding, (int) (Check.BEYOND - finding), name, a);
    }

    /** A call on what rich() makes answers what is due, is not counted, and changes nothing at all. */
    static void unchanged(long due, String name, int... a) {
        unchangedFrom(Twins::rich, due, name, a);
    }

    static void unchangedFrom(Consumer<TunnelPeace> setup, long due, String name, int... a) {
        compare(setup, due, -1, name, a);
    }

    private static void compare(Consumer<TunnelPeace> setup, long due, int counted, String name, int... a) {
        TunnelPeace x = new TunnelPeace();
        TunnelPeace y = new TunnelPeace();
        setup.accept(x);
        setup.accept(y);
        String call = Calls.told(name, a);
        Check.due(call, Calls.call(x, name, a), due);
        for (int which = 0; which < 7; which++) {
            Check.due("status(" + which + ") behind " + call, x.status(which), y.status(which) + (which == counted ? 1 : 0));
        }
        dueAlike("behind " + call, x, y);
    }

    /** Both are asked for all that can be told of them (and are other ones then). */
    static void dueAlike(String when, TunnelPeace x, TunnelPeace y) {
        List<String> ofX = all(x);
        List<String> ofY = all(y);
        for (int i = 0; i < ofY.size(); i++) {
            boolean alike = i < ofX.size() && ofX.get(i).equals(ofY.get(i));
            Check.that(when + ": " + ofY.get(i) + (alike ? "" : ", not " + (i < ofX.size() ? ofX.get(i) : "the end")), alike);
            if (!alike) {
                return;
            }
        }
    }

    /**
     * A number of a call's, where 'least' to 'most' is allowed: both are taken; the one below, the one above and
     * the farthest ones are BEYOND, and change nothing.
     */
    static void range(String name, int position, int least, int most, int... a) {
        rangeFrom(Twins::rich, name, position, least, most, a);
    }

    static void rangeFrom(Consumer<TunnelPeace> setup, String name, int position, int least, int most, int... a) {
        for (int v : new int[] {least, most}) {
            TunnelPeace x = new TunnelPeace();
            setup.accept(x);
            int before = x.status(0);
            Calls.call(x, name, with(v, position, a));
            Check.due("status(0) behind " + Calls.told(name, with(v, position, a)), x.status(0), before);
        }
        for (int v : new int[] {least - 1, most + 1, Check.LEAST, Check.MOST}) {
            refusedFrom(setup, Check.BEYOND, name, with(v, position, a));
        }
    }

    private static int[] with(int v, int position, int... a) {
        int[] b = a.clone();
        b[position] = v;
        return b;
    }

    private static List<String> all(TunnelPeace x) {
        List<String> rows = new ArrayList<>();
        addTunnel(rows, x);
        addSheets(rows, x);
        add(rows, x, "text");
        add(rows, x, "now", 1);
        add(rows, x, "stroll", 2);
        add(rows, x, "undo");
        addTunnel(rows, x);
        add(rows, x, "stroll", 2);
        add(rows, x, "tear");
        return rows;
    }

    private static void addTunnel(List<String> rows, TunnelPeace x) {
        for (int what = 0; what < 8; what++) {
            add(rows, x, "count", what);
        }
        for (int i = 0; i < 6; i++) {
            add(rows, x, "listed", i);
        }
        int people = x.count(1);
        for (int i = 0; i < people; i++) {
            for (int what = 0; what < 6; what++) {
                add(rows, x, "of", i, what);
            }
        }
        for (int spot = 0; spot < 10; spot++) {
            add(rows, x, "as", spot, 0);
        }
    }

    /** Numbers are read by bringing each to the begin of its sheet and then to somebody's season; bits by what they cut. */
    private static void addSheets(List<String> rows, TunnelPeace x) {
        x.person(0, 0);
        for (int s = 0; s < 4; s++) {
            for (int t = s + 1; t < 4; t++) {
                add(rows, x, "copy", s, 0, t, 0, 0);
            }
        }
        for (int s = 0; s < 4; s++) {
            add(rows, x, "fits", s, 0);
            int i = 0;
            while (i < 50 && x.copy(s, i, s, 0, 1) == 1) {
                addFirstNumber(rows, x, s);
                i++;
            }
            rows.add("sheet " + s + " has " + i);
            for (int v : new int[] {0x105, 0x10005}) {
                add(rows, x, "write", s, 0, v);
                addFirstNumber(rows, x, s);
            }
        }
    }

    private static void addFirstNumber(List<String> rows, TunnelPeace x, int s) {
        add(rows, x, "load", s);
        add(rows, x, "of", 0, 3);
    }

    private static void add(List<String> rows, TunnelPeace x, String name, int... a) {
        rows.add(Calls.told(name, a) + " = " + Calls.call(x, name, a));
    }
}
