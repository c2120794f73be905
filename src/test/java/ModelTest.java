import java.util.List;
import java.util.Random;

/** All promises: long runs of calls by chance (the same each time), answered by the class and by the model alike. */
final class ModelTest {
    private static final int RUNS = 400;
    private static final int CALLS = 512;
    private static final String[] PARTS = {"walker ", "merchant 1 ", "soldier 0", "general ", "marshal 1", "child 0", "bride 1 ",
        "at ", "season ", "bags ", "met ", ";", ";", ";", "guns ", "place ", "0 ", "1 ", "7 ", "15", "99 ", "100", "5", "x", " "};

    private final Random chance;
    private final List<String> names = Calls.names();
    private TunnelPeace real;
    private Model model;
    private StringBuilder log;
    private int made;
    private boolean alike;

    private ModelTest(long seed) {
        chance = new Random(seed);
    }

    public static void main(String[] args) {
        for (int run = 0; run < RUNS; run++) {
            new ModelTest(run).go();
        }
        Check.end("ModelTest");
    }

    private void go() {
        Check.due("40 calls there are", names.size(), 40);
        real = new TunnelPeace();
        model = new Model();
        log = new StringBuilder();
        alike = true;
        for (made = 0; made < CALLS && alike;) {
            int what = chance.nextInt(60);
            if (what == 0) {
                feedText();
            } else if (what == 1) {
                tellTrueCells();
            } else if (what == 2) {
                gather();
            } else {
                String name = names.get(chance.nextInt(names.size()));
                call(name, arguments(name, Calls.parameters(name)));
            }
        }
    }

    private long call(String name, int... a) {
        if (made == CALLS || !alike) {
            return 0;
        }
        made++;
        long got = Calls.call(real, name, a);
        long want = model.call(name, a);
        log.append(Calls.told(name, a)).append(" = ").append(want).append('\n');
        alike = got == want;
        if (!alike) {
            System.out.print(log);
        }
        Check.due(name, got, want);
        return got;
    }

    /** A text that is often right, and sometimes not. */
    private void feedText() {
        StringBuilder text = new StringBuilder();
        for (int item = chance.nextInt(4); item >= 0; item--) {
            int kind = chance.nextInt(9);
            text.append(chance.nextInt(4) == 0 ? " " : "");
            if (kind < 7) {
                String[] words = {"walker", "merchant", "soldier", "general", "marshal", "child", "bride"};
                text.append(words[kind]).append(' ').append(chance.nextInt(2));
                String[] options = {" at ", " season ", "bags", " met"};
                int[] most = {15, 99, 9, 9999};
                for (int i = 0; i < 4; i++) {
                    if (chance.nextInt(3) == 0) {
                        text.append(options[i]).append(chance.nextInt(most[i] + 1));
                    }
                }
            } else {
                text.append(kind == 7 ? "guns " + chance.nextInt(100) : "place " + chance.nextInt(6) + " " + chance.nextInt(16));
            }
            text.append(item > 0 ? ";" : "");
        }
        for (int change = chance.nextInt(6) - 3; change > 0; change--) {
            int from = chance.nextInt(text.length() + 1);
            int to = Math.min(text.length(), from + chance.nextInt(3));
            text.replace(from, to, PARTS[chance.nextInt(PARTS.length)]);
        }
        if (chance.nextInt(20) == 0) {
            text.append((char) chance.nextInt(256));
        }
        call("wipe");
        for (int i = 0; i < text.length() && i < 120; i++) {
            call("feed", text.charAt(i), 1);
        }
        call("text");
    }

    /** A sheet with the cells that somebody will be at, but for some, and what could have led there. */
    private void tellTrueCells() {
        int person = chance.nextInt(8);
        int n = chance.nextInt(8);
        int s = chance.nextInt(4);
        call("sheet", s, 8 << chance.nextInt(3), n);
        for (int i = 0; i < n; i++) {
            long cell = call("ahead", person, 2, i + 1);
            call("write", s, i, chance.nextInt(3) == 0 ? -1 : (int) cell);
        }
        call("fits", s, person);
        call("kinds", s, person);
        call("sheet", s, 8, n);
        for (int i = 0; i < n; i++) {
            call("write", s, i, (int) call("of", i, 2));
        }
        call("judge", s);
    }

    /** People near the stripe, so that they meet. */
    private void gather() {
        for (int i = 0; i < 8; i++) {
            call("change", i, 2, 5 + chance.nextInt(6));
            call("change", i, 3, chance.nextInt(60));
        }
        for (int i = 0; i < 6; i++) {
            call("place", i, 5 + chance.nextInt(6));
        }
    }

    private int[] arguments(String name, int n) {
        int[] a = new int[n];
        for (int i = 0; i < n; i++) {
            a[i] = argument();
        }
        if (chance.nextInt(4) != 0) {
            fit(name, a);
        }
        return a;
    }

    private int argument() {
        switch (chance.nextInt(8)) {
            case 0:
                return chance.nextInt();
            case 1:
                int[] edges = {Integer.MIN_VALUE, Integer.MAX_VALUE, -2, -1, 40, 41, 60, 61, 99, 100, 101, 9999, 10000};
                return edges[chance.nextInt(edges.length)];
            case 2:
                return chance.nextInt(20) - 2;
            default:
                return chance.nextInt(9);
        }
    }

    /** Brings arguments near to what the call takes. */
    private void fit(String name, int[] a) {
        int[] most = switch (name) {
            case "guns" -> new int[] {99};
            case "place" -> new int[] {5, 15};
            case "person" -> new int[] {6, 1};
            case "of" -> new int[] {7, 9};
            case "who" -> new int[] {15};
            case "two" -> new int[] {7, 7};
            case "go" -> new int[] {12};
            case "ahead" -> new int[] {7, 7, 100};
            case "noise" -> new int[] {100};
            case "stills" -> new int[] {99};
            case "meets" -> new int[] {7, 200};
            case "placeFor" -> new int[] {5, 40};
            case "kindFor", "bagsFor" -> new int[] {7, 40};
            case "seasonFor" -> new int[] {7, 60, 40};
            case "leaveOut" -> new int[] {20};
            case "fits", "kinds" -> new int[] {3, 7};
            case "stroll" -> new int[] {6};
            case "odds" -> new int[] {7, 15, 1};
            case "hold" -> new int[] {9, 7};
            case "as" -> new int[] {9, 6};
            case "load", "judge" -> new int[] {3};
            case "copy" -> new int[] {3, 10, 3, 10, 10};
            default -> new int[0];
        };
        for (int i = 0; i < most.length; i++) {
            a[i] = chance.nextInt(most[i] + 1);
        }
        if (name.equals("change")) {
            int[] mostOf = {6, 1, 15, 99, 9, 9999};
            a[0] = chance.nextInt(8);
            a[1] = chance.nextInt(6);
            a[2] = chance.nextInt(mostOf[a[1]] + 1);
        } else if (name.equals("sheet")) {
            a[0] = chance.nextInt(4);
            a[1] = new int[] {0, 8, 8, 8, 16, 32}[chance.nextInt(6)];
            a[2] = chance.nextInt(12);
        } else if (name.equals("write")) {
            a[0] = chance.nextInt(4);
            a[1] = chance.nextInt(8);
        } else if ((name.equals("seasonFor") || name.equals("meets")) && chance.nextBoolean()) {
            long met = Math.max(0, call("of", a[0], 5));
            a[1] = (int) Math.min(9999, met + chance.nextInt(30));
        }
    }
}
