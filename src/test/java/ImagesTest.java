/** Promises 37 to 41: images, counts and the status. */
final class ImagesTest {
    public static void main(String[] args) {
        image();
        undo();
        undoNone();
        tear();
        count();
        status();
        statusBeyond();
        Check.end("ImagesTest");
    }

    /** Changes all that can be changed: the tunnel, people, days, draws, spots, and the tape and sheets. */
    private static void changeAll(TunnelPeace x) {
        x.wipe();
        Check.read(x, "soldier 1;guns 3;place 2 9");
        for (int i = 0; i < 5; i++) {
            int[] other = {3, 1 - x.of(i, 1), 11, 77, 6, 55};
            for (int what = 0; what < 6; what++) {
                x.change(i, what, other[what]);
            }
        }
        for (int i = 0; i < 6; i++) {
            x.place(i, 10 + i);
        }
        x.hold(2, -1);
        x.hold(3, 4);
        x.hold(5, 0);
        x.go(7);
        x.stroll(3);
        x.guns(2);
    }

    private static void image() {
        Check.sentence("37", "All but THE TAPE and SHEETS is kept: 1.");
        TunnelPeace x = new TunnelPeace();
        TunnelPeace y = new TunnelPeace();
        Twins.rich(x);
        Twins.rich(y);
        Check.due("image", x.image(), 1);
        y.image();
        Twins.dueAlike("behind image()", x, y);
        TunnelPeace changed = new TunnelPeace();
        TunnelPeace same = new TunnelPeace();
        Twins.rich(changed);
        Twins.rich(same);
        changed.image();
        same.image();
        changeAll(changed);
        Check.due("the day that was", changed.undo(), 1);
        Check.due("the tape isn't kept", changed.count(5), 0);
        Check.feed(changed, "guns 3");
        Twins.dueAlike("undone", changed, same);
        TunnelPeace sheets = Check.tunnel("child 0 at 6");
        sheets.image();
        Check.tell(sheets, 0, 8, 6);
        sheets.feed(0, 3);
        sheets.undo();
        Check.due("the sheet stays", sheets.judge(0), 0);
        Check.due("the tape stays", sheets.count(5), 3);
        sheets.image();
        sheets.sheet(0, 0, 0);
        sheets.wipe();
        sheets.undo();
        Check.due("the sheet stays missing", sheets.judge(0), Check.MISSING);
        Check.due("the tape stays empty", sheets.count(5), 0);
        Check.due("of nothing, too", new TunnelPeace().image(), 1);
    }

    private static void undo() {
        Check.sentence("38", "It becomes what was kept latest (which stays): DAY.");
        TunnelPeace x = new TunnelPeace();
        x.image();
        x.go(2);
        x.image();
        x.go(3);
        Check.due("latest", x.undo(), 2);
        Check.due("it stays", x.undo(), 2);
        x.go(4);
        Check.due("it stays yet", x.undo(), 2);
        x.person(0, 0);
        x.hold(0, 0);
        Check.due("it is no part of it", x.undo(), 2);
        Check.due("nobody", x.count(1), 0);
        Check.due("nothing is held", x.as(0, 0), Check.MISSING);
        Check.due("on day 0", undoneOnDay0(), 0);
        TunnelPeace less = Check.tunnel("child 0;child 1;child 0");
        less.image();
        Check.read(less, "child 1;child 0");
        less.undo();
        Check.due("three again", less.count(1), 3);
        Check.due("no fourth", less.of(3, 0), Check.BEYOND);
        Check.due("no fourth to hold", less.hold(0, 3), Check.BEYOND);
    }

    private static int undoneOnDay0() {
        TunnelPeace x = new TunnelPeace();
        x.image();
        x.go(60);
        return x.undo();
    }

    private static void undoNone() {
        Check.sentence("38", "NONE: nothing is kept.");
        Twins.refusedFrom(x -> { }, Check.NONE, "undo");
        Twins.refusedFrom(x -> {
            Twins.rich(x);
            x.tear();
        }, Check.NONE, "undo");
    }

    private static void tear() {
        Check.sentence("39", "Nothing is kept: 1 if something was, else 0.");
        TunnelPeace x = new TunnelPeace();
        Check.due("nothing", x.tear(), 0);
        x.image();
        x.image();
        Check.due("something", x.tear(), 1);
        Check.due("nothing then", x.tear(), 0);
        Check.due("none", x.undo(), Check.NONE);
        x.image();
        Check.due("kept anew", x.undo(), 0);
        Check.due("kept yet", x.tear(), 1);
        TunnelPeace torn = new TunnelPeace();
        TunnelPeace other = new TunnelPeace();
        Twins.rich(torn);
        Twins.rich(other);
        torn.tear();
        torn.image();
        other.image();
        Twins.dueAlike("what is stays", torn, other);
    }

    private static void count() {
        Check.sentence("40", "0 DAY, 1 PEOPLE, 2 GUNS, 3 MET of all together, 4 how many have a SEASON, 5 bytes of THE TAPE, 6 z,"
                + " 7 SPOTS that hold something.");
        int[] rich = {1, 4, 61, 11, 4, 6, -5, 3};
        int[] first = {0, 0, 50, 0, 0, 0, 1, 0};
        for (int what = 0; what < 8; what++) {
            Twins.unchanged(rich[what], "count", what);
            Check.due("of a new one " + what, new TunnelPeace().count(what), first[what]);
        }
        TunnelPeace x = new TunnelPeace();
        for (int i = 0; i < 8; i++) {
            x.person(0, i % 2);
            x.change(i, 5, 9999);
        }
        for (int spot = 0; spot < 10; spot++) {
            x.hold(spot, 7);
        }
        for (int i = 0; i < 30; i++) {
            x.feed(0, 4);
        }
        x.guns(99);
        x.seed(-1000001);
        int[] most = {0, 8, 99, 79992, 8, 120, -1000001, 10};
        for (int what = 0; what < 8; what++) {
            Check.due("the most " + what, x.count(what), most[what]);
        }
        x.change(3, 3, 0);
        Check.due("one without a season", x.count(4), 7);
        Check.due("no finding", x.status(-1), 0);
        Check.sentence("40", "BEYOND: another what.");
        Twins.range("count", 0, 0, 7, 0);
    }

    private static void status() {
        Check.sentence("41", "How many acts answered a finding ever (undo() takes none back): which -1: all, 0 to 6: BEYOND to SIZE.");
        TunnelPeace x = new TunnelPeace();
        for (int which = -1; which < 7; which++) {
            Check.due("first " + which, x.status(which), 0);
        }
        x.guns(100);
        x.guns(-1);
        x.person(0, 0);
        x.hold(0, 0);
        x.as(0, 1);
        x.undo();
        x.stills(0);
        x.lapses();
        x.as(1, 0);
        x.judge(0);
        x.load(0);
        x.sheet(0, 8, -1);
        for (int i = 0; i < 30; i++) {
            x.feed(0, 4);
        }
        x.feed(0, 1);
        x.text();
        x.odds(0, 16, 0);
        int[] due = {3, 1, 1, 2, 0, 3, 1};
        for (int which = 0; which < due.length; which++) {
            Check.due("status(" + which + ")", x.status(which), due[which]);
        }
        Check.due("all", x.status(-1), 11);
        x.image();
        x.go(0);
        x.undo();
        Check.due("undo takes none back", x.status(-1), 12);
        Check.due("undo takes none of them back", x.status(0), 4);
        x.tear();
        Check.due("nor does tear", x.status(-1), 12);
        TunnelPeace last = DaysTest.onDay(99999);
        last.go(1);
        last.stroll(1);
        Check.due("STATE", last.status(4), 2);
        Check.due("STATE among all", last.status(-1), 2);
        TunnelPeace often = new TunnelPeace();
        for (int i = 0; i < 255; i++) {
            often.now(8);
            Check.due("so many", often.status(0), i + 1);
        }
        Twins.unchanged(2, "status", -1);
        Twins.unchanged(1, "status", 0);
        Twins.unchanged(1, "status", 5);
        Twins.unchanged(0, "status", 6);
    }

    private static void statusBeyond() {
        Check.sentence("41", "BEYOND (counted from then on): another one.");
        Twins.range("status", 0, -1, 6, 0);
        TunnelPeace x = new TunnelPeace();
        Check.due("below", x.status(-2), Check.BEYOND);
        Check.due("counted", x.status(0), 1);
        Check.due("above", x.status(7), Check.BEYOND);
        Check.due("counted again", x.status(0), 2);
        Check.due("among all", x.status(-1), 2);
    }
}
