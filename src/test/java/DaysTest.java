/** Promises 10 and 11: days as they go by, and what is told of now. */
final class DaysTest {
    public static void main(String[] args) {
        towardsThePlace();
        listByDays();
        stripe();
        crossing();
        homewards();
        child();
        meetings();
        guns();
        endOfDay();
        edges();
        lastDay();
        now();
        Check.end("DaysTest");
    }

    /** Cells of one behind each of some days. */
    private static void dueWay(String what, TunnelPeace x, int person, int... cells) {
        for (int cell : cells) {
            x.go(1);
            Check.due("10: " + what + " behind day " + x.now(0), x.of(person, 2), cell);
        }
    }

    private static void towardsThePlace() {
        dueWay("up", Check.tunnel("walker 0"), 0, 3, 6, 7, 7);
        dueWay("down to the stripe", Check.tunnel("walker 1"), 0, 12, 9, 8, 8);
        dueWay("with bags", Check.tunnel("walker 0 at 1 bags 1"), 0, 3, 5, 7);
        dueWay("back", Check.tunnel("place 0 2;place 1 2;soldier 0 at 7"), 0, 3, 2);
    }

    private static void listByDays() {
        TunnelPeace x = Check.tunnel("walker 0 at 3");
        for (int i = 0; i < 6; i++) {
            x.place(i, i);
        }
        dueWay("list", x, 0, 0, 1, 2, 3, 4, 5, 2, 1, 2, 3);
    }

    private static void stripe() {
        for (int kind : new int[] {0, 1, 2, 3, 4, 6}) {
            TunnelPeace x = new TunnelPeace();
            x.person(kind, 0);
            x.person(kind, 1);
            x.place(0, 12);
            x.place(1, 3);
            x.change(0, 2, 6);
            x.change(1, 2, 6);
            x.go(1);
            Check.due("10: kind " + kind + " stops at 7", x.of(0, 2), 7);
            Check.due("10: kind " + kind + " abroad stops at 7", x.of(1, 2), 7);
            x.change(0, 2, 9);
            x.change(1, 2, 9);
            x.change(0, 5, 0);
            x.change(1, 5, 0);
            x.guns(50);
            x.go(1);
            Check.due("10: kind " + kind + " abroad stops at 8", x.of(0, 2), 8);
            Check.due("10: kind " + kind + " stops at 8", x.of(1, 2), 8);
        }
    }

    private static void crossing() {
        dueWay("a bride", Check.tunnel("place 0 12;place 1 12;bride 0 at 6 met 5"), 0, 10, 12);
        dueWay("no bride", Check.tunnel("place 0 12;bride 0 at 6 met 4"), 0, 7);
        dueWay("a soldier", Check.tunnel("guns 0;place 0 12;soldier 0 at 6"), 0, 10);
        dueWay("a general", Check.tunnel("guns 20;place 0 12;place 1 12;general 0 at 7"), 0, 9, 11);
        dueWay("a marshal", Check.tunnel("place 0 3;marshal 1 at 8 met 1"), 0, 6);
        dueWay("a child", Check.tunnel("place 1 15;child 0 at 7"), 0, 7, 8, 8);
    }

    private static void homewards() {
        dueWay("home over the stripe", Check.tunnel("walker 0 at 14 season 0"), 0, 11, 8, 5, 2, 0, 0);
        dueWay("home to 15", Check.tunnel("soldier 1 at 3 season 0"), 0, 7, 11, 15, 15);
        dueWay("a season's end", Check.tunnel("walker 0 at 6 season 1"), 0, 7, 4, 1, 0);
        dueWay("a soldier's season", Check.tunnel("soldier 0 at 5 season 2"), 0, 7, 3);
    }

    private static void child() {
        dueWay("a child", Check.tunnel("child 0 at 3"), 0, 3, 4, 4, 5, 5, 6);
        dueWay("a child without season", Check.tunnel("child 0 at 9 season 0"), 0, 9, 8, 8, 7, 7, 6);
    }

    private static void meetings() {
        TunnelPeace x = Check.tunnel("walker 0 at 7;merchant 0 at 7;walker 1 at 8;child 1 at 7");
        Check.due("10: guns less 3, 4, 12, 11, and 5 more", x.go(1), 50 - 2 - 11 - 3 - 12 + 5);
        int[] met = {2, 2, 2, 2};
        for (int i = 0; i < 4; i++) {
            Check.due("10: met of " + i, x.of(i, 5), met[i]);
        }
        TunnelPeace y = Check.tunnel("walker 0 at 7 met 9998;walker 0 at 7 met 9999;walker 1 at 7;place 1 7");
        y.go(2);
        Check.due("10: met 9999 at most", y.of(0, 5), 9999);
        Check.due("10: met stays 9999", y.of(1, 5), 9999);
        Check.due("10: met of the third", y.of(2, 5), 4);
        TunnelPeace z = Check.tunnel("walker 0 at 6;walker 0 at 7;walker 1 at 9;place 0 6");
        z.go(1);
        Check.due("10: not at 6 and 8", z.of(0, 5), 0);
        Check.due("10: met before going on isn't met", z.of(2, 5), 0);
        TunnelPeace abroad = Check.tunnel("child 0 at 8;child 1 at 7;child 0 at 3;child 1 at 3");
        Check.due("10: abroad", abroad.go(1), 50 - 20 - 20 + 5);
    }

    private static void guns() {
        TunnelPeace x = new TunnelPeace();
        x.guns(94);
        Check.due("10: five more", x.go(1), 99);
        Check.due("10: 99 at most", x.go(1), 99);
        x.guns(97);
        Check.due("10: 99 at most from 97", x.go(1), 99);
        x.guns(0);
        Check.due("10: stay 0", x.go(60), 0);
        String pair = "walker 0 at 7;merchant 1 at 8";
        TunnelPeace y = Check.tunnel(pair);
        y.guns(4);
        Check.due("10: 1 is left", y.go(1), 6);
        y.guns(3);
        Check.due("10: 0 is left", y.go(1), 0);
        y.guns(2);
        Check.due("10: 0 at least", y.go(1), 0);
    }

    private static void endOfDay() {
        TunnelPeace x = Check.tunnel("walker 0 at 1 bags 2;walker 0 at 1 season 0 bags 9;walker 1 at 1 bags 3;place 0 0");
        x.go(1);
        Check.due("10: bags at the lift", x.of(0, 4), 0);
        Check.due("10: bags at the lift without season", x.of(1, 4), 0);
        Check.due("10: bags at the other one's lift", x.of(2, 4), 3);
        TunnelPeace y = Check.tunnel("soldier 0 season 1;walker 0 season 0;bride 0;child 0 season 4;soldier 1;bride 1");
        int[] season = {0, 0, 28, 4, 28, 28};
        y.go(1);
        for (int i = 0; i < season.length; i++) {
            Check.due("10: season of " + i, y.of(i, 3), season[i]);
        }
        y.go(2);
        Check.due("10: a bride's season behind 3 days", y.of(2, 3), 26);
        y.go(1);
        Check.due("10: a bride's season behind 4 days", y.of(2, 3), 24);
        Check.due("10: day", y.now(0), 4);
    }

    private static void edges() {
        TunnelPeace x = new TunnelPeace();
        int[] wrong = {0, -1, 61, Integer.MIN_VALUE, Integer.MAX_VALUE};
        for (int n : wrong) {
            Check.due("10: beyond " + n, x.go(n), Check.BEYOND);
        }
        Check.due("10: no day went by", x.now(0), 0);
        Check.due("10: most days", x.go(60), 99);
        Check.due("10: sixty days", x.now(0), 60);
    }

    /** It takes more calls to come here than are promised; the class doesn't count calls, so it can be shown. */
    private static void lastDay() {
        TunnelPeace x = new TunnelPeace();
        for (int i = 0; i < 1666; i++) {
            x.go(60);
        }
        Check.due("10: day", x.now(0), 99960);
        Check.due("10: too many days", x.go(40), Check.STATE);
        Check.due("10: beyond is asked first", x.go(61), Check.BEYOND);
        x.go(39);
        Check.due("10: last day", x.now(0), 99999);
        Check.due("10: none left", x.go(1), Check.STATE);
        Check.due("24: none left", x.stroll(1), Check.STATE);
        Check.due("24: no draw was made", x.count(6), 1);
        Check.due("10: still the last day", x.now(0), 99999);
        x.person(5, 0);
        Check.due("12: the day stays odd", x.ahead(0, 2, 5), 5);
    }

    private static void now() {
        TunnelPeace x = new TunnelPeace();
        int[] first = {0, 50, 0, 0, 0, 0, 0, -1};
        for (int what = 0; what < first.length; what++) {
            Check.due("11: of nobody " + what, x.now(what), first[what]);
        }
        Check.due("11: below", x.now(-1), Check.BEYOND);
        Check.due("11: above", x.now(8), Check.BEYOND);
        TunnelPeace y = Check.tunnel("guns 33;walker 0 at 7 met 4;walker 1 at 8 season 0;walker 0 at 8 met 9;walker 1 at 7 met 9");
        int[] due = {0, 33, 22, 12, 13, 384, 4, 2};
        for (int what = 0; what < due.length; what++) {
            Check.due("11: " + what, y.now(what), due[what]);
        }
        y.go(1);
        Check.due("11: day", y.now(0), 1);
        Check.due("11: who is at the ends", Check.tunnel("walker 0 at 15;walker 1").now(5), 1 << 15);
    }
}
