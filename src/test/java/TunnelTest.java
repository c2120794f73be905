/** Promises 1 to 9: a new object, and the tunnel with its people. */
final class TunnelTest {
    public static void main(String[] args) {
        newObject();
        guns();
        list();
        person();
        steps();
        crosses();
        calmsAndTires();
        change();
        whoAndTwo();
        Check.end("TunnelTest");
    }

    private static void newObject() {
        TunnelPeace x = new TunnelPeace();
        int[] counts = {0, 0, 50, 0, 0, 0, 1, 0};
        for (int what = 0; what < counts.length; what++) {
            Check.due("1: count " + what, x.count(what), counts[what]);
        }
        for (int i = 0; i < 6; i++) {
            Check.due("1: listed " + i, x.listed(i), 7);
        }
        for (int s = 0; s < 4; s++) {
            Check.due("1: judge " + s, x.judge(s), Check.MISSING);
        }
        for (int spot = 0; spot < 10; spot++) {
            Check.due("1: as " + spot, x.as(spot, 0), Check.MISSING);
        }
        Check.due("1: undo", x.undo(), Check.NONE);
        Check.due("1: status", x.status(-1), 15);
    }

    private static void guns() {
        TunnelPeace x = new TunnelPeace();
        Check.due("2: first", x.guns(0), 50);
        Check.due("2: lowest", x.guns(99), 0);
        Check.due("2: highest", x.guns(7), 99);
        Check.due("2: below", x.guns(-1), Check.BEYOND);
        Check.due("2: above", x.guns(100), Check.BEYOND);
        Check.due("2: unchanged", x.now(1), 7);
    }

    private static void list() {
        TunnelPeace x = new TunnelPeace();
        Check.due("3: first", x.place(0, 15), 7);
        Check.due("3: again", x.place(0, 0), 15);
        Check.due("3: last place", x.place(5, 9), 7);
        Check.due("4: place 0", x.listed(0), 0);
        Check.due("4: place 4", x.listed(4), 7);
        Check.due("4: place 5", x.listed(5), 9);
        int[][] wrong = {{-1, 0}, {6, 0}, {0, -1}, {0, 16}, {Integer.MIN_VALUE, Integer.MAX_VALUE}};
        for (int[] row : wrong) {
            Check.due("3: beyond", x.place(row[0], row[1]), Check.BEYOND);
        }
        Check.due("4: below", x.listed(-1), Check.BEYOND);
        Check.due("4: above", x.listed(6), Check.BEYOND);
        Check.due("3: unchanged", x.listed(0), 0);
    }

    private static void person() {
        TunnelPeace x = new TunnelPeace();
        int[][] wrong = {{-1, 0}, {7, 0}, {0, -1}, {0, 2}};
        for (int[] row : wrong) {
            Check.due("5: beyond", x.person(row[0], row[1]), Check.BEYOND);
        }
        for (int i = 0; i < 8; i++) {
            Check.due("5: number", x.person(i % 7, i % 2), i);
            int[] due = {i % 7, i % 2, i % 2 == 0 ? 0 : 15, 30, 0, 0};
            for (int what = 0; what < due.length; what++) {
                Check.due("6: of new " + what, x.of(i, what), due[what]);
            }
        }
        Check.due("5: beyond ahead of full", x.person(7, 0), Check.BEYOND);
        Check.due("5: full", x.person(0, 0), Check.FULL);
        Check.due("5: still eight", x.count(1), 8);
        Check.due("6: no such one", x.of(8, 0), Check.BEYOND);
        Check.due("6: one below", x.of(-1, 0), Check.BEYOND);
        Check.due("6: what below", x.of(0, -1), Check.BEYOND);
        Check.due("6: what above", x.of(0, 10), Check.BEYOND);
    }

    private static TunnelPeace oneOfEach() {
        TunnelPeace x = new TunnelPeace();
        for (int kind = 0; kind < 7; kind++) {
            x.person(kind, 0);
        }
        return x;
    }

    private static void dueOfEach(TunnelPeace x, String name, int what, int... due) {
        for (int kind = 0; kind < 7; kind++) {
            Check.due("6: " + name + " of kind " + kind, x.of(kind, what), due[kind]);
        }
    }

    private static void steps() {
        TunnelPeace x = oneOfEach();
        int[][] due = {{3, 2, 4, 2, 2, 0, 4}, {2, 1, 3, 1, 1, 0, 3}, {1, 1, 2, 1, 1, 0, 3}};
        for (int bags = 0; bags <= 9; bags++) {
            for (int i = 0; i < 7; i++) {
                x.change(i, 4, bags);
            }
            dueOfEach(x, "steps with " + bags + " bags", 6, due[Math.min(bags, 2)]);
        }
        x.go(1);
        Check.due("6: a child's steps on an odd day", x.of(5, 6), 1);
        x.go(1);
        Check.due("6: a child's steps on an even day", x.of(5, 6), 0);
    }

    private static void crosses() {
        TunnelPeace x = oneOfEach();
        dueOfEach(x, "crosses", 7, 0, 0, 0, 0, 0, 1, 0);
        x.guns(21);
        dueOfEach(x, "crosses at 21", 7, 0, 0, 0, 0, 0, 1, 0);
        x.guns(20);
        dueOfEach(x, "crosses at 20", 7, 0, 0, 0, 1, 1, 1, 0);
        x.guns(1);
        dueOfEach(x, "crosses at 1", 7, 0, 0, 0, 1, 1, 1, 0);
        x.guns(0);
        dueOfEach(x, "crosses at 0", 7, 0, 0, 1, 1, 1, 1, 0);
        x.guns(50);
        int[][] due = {{4, 0, 0}, {5, 1, 1}, {6, 0, 1}, {9999, 1, 1}};
        for (int[] row : due) {
            for (int i = 0; i < 7; i++) {
                x.change(i, 5, row[0]);
            }
            dueOfEach(x, "crosses with met " + row[0], 7, 0, 0, 0, 0, row[1], 1, row[2]);
        }
    }

    private static void calmsAndTires() {
        TunnelPeace x = oneOfEach();
        dueOfEach(x, "calms", 8, 1, 2, 0, 5, 10, 10, 6);
        dueOfEach(x, "tires on day 0", 9, 1, 1, 2, 2, 2, 0, 2);
        x.go(1);
        dueOfEach(x, "tires on day 1", 9, 1, 1, 2, 2, 2, 0, 1);
        x.go(1);
        dueOfEach(x, "tires on day 2", 9, 1, 1, 2, 2, 2, 0, 1);
        x.go(1);
        dueOfEach(x, "tires on day 3", 9, 1, 1, 2, 2, 2, 0, 2);
    }

    private static void change() {
        TunnelPeace x = new TunnelPeace();
        x.person(0, 1);
        int[] first = {0, 1, 15, 30, 0, 0};
        int[] most = {6, 1, 15, 99, 9, 9999};
        for (int what = 0; what <= 5; what++) {
            Check.due("7: was " + what, x.change(0, what, most[what]), first[what]);
            Check.due("7: above " + what, x.change(0, what, most[what] + 1), Check.BEYOND);
            Check.due("7: below " + what, x.change(0, what, -1), Check.BEYOND);
            Check.due("7: is " + what, x.of(0, what), most[what]);
        }
        for (int what = 0; what <= 5; what++) {
            Check.due("7: was most " + what, x.change(0, what, 0), most[what]);
            Check.due("7: is 0 " + what, x.of(0, what), 0);
        }
        Check.due("7: what 6", x.change(0, 6, 0), Check.BEYOND);
        Check.due("7: what -1", x.change(0, -1, 0), Check.BEYOND);
        Check.due("7: nobody", x.change(1, 0, 0), Check.BEYOND);
        Check.due("7: below nobody", x.change(-1, 0, 0), Check.BEYOND);
    }

    private static void whoAndTwo() {
        TunnelPeace x = Check.tunnel("walker 0 at 7;walker 1 at 8;walker 0 at 7;child 1 at 7;child 0 at 8");
        Check.due("8: at 7", x.who(7), 13);
        Check.due("8: at 8", x.who(8), 18);
        Check.due("8: at 0", x.who(0), 0);
        Check.due("8: at 15", x.who(15), 0);
        Check.due("8: below", x.who(-1), Check.BEYOND);
        Check.due("8: above", x.who(16), Check.BEYOND);
        Check.due("9: over the stripe", x.two(0, 1), 1);
        Check.due("9: the other way", x.two(1, 0), 1);
        Check.due("9: one side", x.two(0, 2), 0);
        Check.due("9: at one cell", x.two(3, 0), 1);
        Check.due("9: both abroad", x.two(3, 4), 1);
        Check.due("9: one side over the stripe", x.two(1, 3), 0);
        x.change(1, 2, 9);
        Check.due("9: too far", x.two(0, 1), 0);
        Check.due("9: next to one another", x.two(1, 4), 0);
        Check.due("9: one and the same", x.two(1, 1), Check.BEYOND);
        Check.due("9: nobody", x.two(0, 5), Check.BEYOND);
        Check.due("9: nobody first", x.two(5, 0), Check.BEYOND);
        Check.due("9: below", x.two(-1, 0), Check.BEYOND);
    }
}
