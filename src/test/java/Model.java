import java.util.ArrayList;
import java.util.Arrays;
import java.util.List;
import java.util.function.Predicate;
import java.util.regex.Matcher;
import java.util.regex.Pattern;

/**
 * The document a second time, written with the whole library and another shape (kinds as classes one
 * under another, copies instead of a second tunnel, texts by patterns), to compare answers with.
 */
final class Model {
    private static final class Finding extends RuntimeException {
        private static final long serialVersionUID = 1L;
        final int number;

        Finding(int number) {
            super(null, null, false, false);
            this.number = number;
        }
    }

    private static final Finding[] ALL = new Finding[7];

    static {
        for (int i = 0; i < 7; i++) {
            ALL[i] = new Finding(i);
        }
    }

    private static final int BEYOND = 0;
    private static final int FULL = 1;
    private static final int KIND = 2;
    private static final int NONE = 3;
    private static final int STATE = 4;
    private static final int MISSING = 5;
    private static final int SIZE = 6;

    private static void ask(boolean holds, int finding) {
        if (!holds) {
            throw ALL[finding];
        }
    }

    private static void range(int v, int from, int to) {
        ask(from <= v && v <= to, BEYOND);
    }

    // Kinds, as classes: each says what the document says of it, no more.
    private static class Walker {
        int steps(One o, World w) {
            return Math.max(3 - o.bags, 1);
        }

        boolean crosses(One o, World w) {
            return false;
        }

        int calms() {
            return 1;
        }

        int tires(World w) {
            return 1;
        }
    }

    private static class Merchant extends Walker {
        @Override
        int steps(One o, World w) {
            return Math.max(super.steps(o, w) - 1, 1);
        }

        @Override
        int calms() {
            return super.calms() + 1;
        }
    }

    private static final class Bride extends Merchant {
        @Override
        int steps(One o, World w) {
            return super.steps(o, w) + 2;
        }

        @Override
        boolean crosses(One o, World w) {
            return o.met >= 5;
        }

        @Override
        int calms() {
            return super.calms() * 3;
        }

        @Override
        int tires(World w) {
            return w.day % 3 == 0 ? 2 : super.tires(w);
        }
    }

    private static class Soldier extends Walker {
        @Override
        int steps(One o, World w) {
            return super.steps(o, w) + 1;
        }

        @Override
        boolean crosses(One o, World w) {
            return w.guns == 0;
        }

        @Override
        int calms() {
            return 0;
        }

        @Override
        int tires(World w) {
            return super.tires(w) + 1;
        }
    }

    private static class General extends Soldier {
        @Override
        int steps(One o, World w) {
            return Math.max(super.steps(o, w) / 2, 1);
        }

        @Override
        boolean crosses(One o, World w) {
            return w.guns <= 20;
        }

        @Override
        int calms() {
            return super.calms() + 5;
        }
    }

    private static final class Marshal extends General {
        @Override
        boolean crosses(One o, World w) {
            return super.crosses(o, w) || o.met % 2 != 0;
        }

        @Override
        int calms() {
            return super.calms() * 2;
        }
    }

    private static final class Child extends Walker {
        @Override
        int steps(One o, World w) {
            return w.day % 2 != 0 ? 1 : 0;
        }

        @Override
        boolean crosses(One o, World w) {
            return true;
        }

        @Override
        int calms() {
            return super.calms() + 9;
        }

        @Override
        int tires(World w) {
            return 0;
        }
    }

    private static final Walker[] KINDS = {new Walker(), new Merchant(), new Soldier(), new General(), new Marshal(),
        new Child(), new Bride()};
    private static final List<String> WORDS = List.of("walker", "merchant", "soldier", "general", "marshal", "child", "bride");
    private static final int[] MOST = {6, 1, 15, 99, 9, 9999};

    private static final class One {
        int kind;
        int side;
        int cell;
        int season = 30;
        int bags;
        int met;

        One(int kind, int side) {
            this.kind = kind;
            this.side = side;
            cell = 15 * side;
        }

        One(One o) {
            kind = o.kind;
            side = o.side;
            cell = o.cell;
            season = o.season;
            bags = o.bags;
            met = o.met;
        }

        void put(int what, int v) {
            switch (what) {
                case 0 -> kind = v;
                case 1 -> side = v;
                case 2 -> cell = v;
                case 3 -> season = v;
                case 4 -> bags = v;
                default -> met = v;
            }
        }

        int get(int what, World w) {
            return switch (what) {
                case 0 -> kind;
                case 1 -> side;
                case 2 -> cell;
                case 3 -> season;
                case 4 -> bags;
                case 5 -> met;
                case 6 -> KINDS[kind].steps(this, w);
                case 7 -> KINDS[kind].crosses(this, w) ? 1 : 0;
                case 8 -> KINDS[kind].calms();
                default -> KINDS[kind].tires(w);
            };
        }

        boolean meets(One o) {
            int low = Math.min(cell, o.cell);
            int high = Math.max(cell, o.cell);
            return side != o.side && (low == high || low == 7 && high == 8);
        }
    }

    private static final class World {
        int day;
        int guns = 50;
        int z = 1;
        int[] list = {7, 7, 7, 7, 7, 7};
        List<One> people = new ArrayList<>();
        int[] spots = {-1, -1, -1, -1, -1, -1, -1, -1, -1, -1};

        World() {
        }

        World(World w) {
            day = w.day;
            guns = w.guns;
            z = w.z;
            list = w.list.clone();
            spots = w.spots.clone();
            for (One o : w.people) {
                people.add(new One(o));
            }
        }

        World later(int n) {
            World w = new World(this);
            for (int i = 0; i < n; i++) {
                w.pass();
            }
            return w;
        }

        /** One cell at a time. */
        void walk(One o) {
            boolean season = o.season > 0;
            int target = season ? list[day % 6] : 15 * o.side;
            int steps = KINDS[o.kind].steps(o, this);
            for (int i = 0; i < steps && o.cell != target; i++) {
                int next = o.cell + Integer.signum(target - o.cell);
                boolean overStripe = Math.min(next, o.cell) == 7 && Math.max(next, o.cell) == 8;
                if (season && overStripe && !KINDS[o.kind].crosses(o, this)) {
                    break;
                }
                o.cell = next;
            }
        }

        void pass() {
            people.forEach(this::walk);
            for (int a = 0; a < people.size(); a++) {
                for (int b = a + 1; b < people.size(); b++) {
                    One x = people.get(a);
                    One y = people.get(b);
                    if (x.meets(y)) {
                        guns = Math.max(0, guns - (KINDS[x.kind].calms() + KINDS[y.kind].calms()));
                        x.met = Math.min(9999, x.met + 1);
                        y.met = Math.min(9999, y.met + 1);
                    }
                }
            }
            guns = guns == 0 ? 0 : Math.min(guns + 5, 99);
            for (One o : people) {
                o.bags = o.cell == 15 * o.side ? 0 : o.bags;
                o.season = Math.max(0, o.season - KINDS[o.kind].tires(this));
            }
            day = Math.min(day + 1, 99999);
        }

        int draw() {
            z = z * 1103515245 + 12345;
            return z >>> 8;
        }

        int met() {
            return people.stream().mapToInt(o -> o.met).sum();
        }

        int set(Predicate<One> is) {
            int set = 0;
            for (int i = 0; i < people.size(); i++) {
                set |= is.test(people.get(i)) ? 1 << i : 0;
            }
            return set;
        }
    }

    private World w = new World();
    private World kept = null;
    private StringBuilder tape = new StringBuilder();
    private final int[] bits = new int[4];
    private final long[][] sheets = new long[4][];
    private final int[] status = new int[7];

    /** The answer to a call by its name. */
    long call(String name, int... a) {
        try {
            return answer(name, a);
        } catch (Finding f) {
            status[f.number]++;
            return -1000001 - f.number;
        }
    }

    private long answer(String name, int[] a) {
        return switch (name) {
            case "guns", "place", "listed", "person", "of", "change", "who", "two" -> tunnel(name, a);
            case "go", "now", "stroll", "odds", "seed" -> days(name, a);
            case "ahead", "noise", "stills", "meets", "lapses" -> ahead(name, a);
            case "placeFor", "kindFor", "seasonFor", "bagsFor", "leaveOut" -> plan(name, a);
            case "feed", "wipe", "text", "hold", "as" -> texts(name, a);
            case "fits", "kinds", "sheet", "write", "copy", "load", "judge" -> sheets(name, a);
            default -> images(name, a);
        };
    }

    private One one(int i) {
        range(i, 0, w.people.size() - 1);
        return w.people.get(i);
    }

    private long tunnel(String name, int[] a) {
        int was;
        switch (name) {
            case "guns":
                range(a[0], 0, 99);
                was = w.guns;
                w.guns = a[0];
                return was;
            case "place":
                range(a[0], 0, 5);
                range(a[1], 0, 15);
                was = w.list[a[0]];
                w.list[a[0]] = a[1];
                return was;
            case "listed":
                range(a[0], 0, 5);
                return w.list[a[0]];
            case "person":
                range(a[0], 0, 6);
                range(a[1], 0, 1);
                ask(w.people.size() < 8, FULL);
                w.people.add(new One(a[0], a[1]));
                return w.people.size() - 1;
            case "of":
                one(a[0]);
                range(a[1], 0, 9);
                return one(a[0]).get(a[1], w);
            case "change":
                one(a[0]);
                range(a[1], 0, 5);
                range(a[2], 0, MOST[a[1]]);
                was = one(a[0]).get(a[1], w);
                one(a[0]).put(a[1], a[2]);
                return was;
            case "who":
                range(a[0], 0, 15);
                return w.set(o -> o.cell == a[0]);
            default:
                ask(a[0] != a[1], BEYOND);
                return one(a[0]).meets(one(a[1])) ? 1 : 0;
        }
    }

    private long days(String name, int[] a) {
        switch (name) {
            case "go":
                range(a[0], 1, 60);
                ask(w.day + a[0] <= 99999, STATE);
                w = w.later(a[0]);
                return w.guns;
            case "stroll":
                range(a[0], 1, 20);
                ask(w.day + a[0] <= 99999, STATE);
                for (int i = 0; i < a[0]; i++) {
                    w.list[w.day % 6] = w.draw() % 16;
                    int person = w.draw() % 8;
                    if (person < w.people.size()) {
                        w.people.get(person).bags = Math.min(9, w.people.get(person).bags + 1);
                    }
                    w.pass();
                }
                return w.guns;
            case "seed":
                int was = w.z;
                w.z = a[0];
                return was;
            case "odds":
                return odds(a);
            default:
                return now(a[0]);
        }
    }

    private long odds(int[] a) {
        one(a[0]);
        range(a[1], 0, 15);
        range(a[2], 0, 1);
        int cells = 0;
        for (int cell = 0; cell < 16; cell++) {
            One there = new One(one(a[0]));
            there.cell = cell;
            cells += w.people.stream().anyMatch(there::meets) ? 1 : 0;
        }
        java.math.BigInteger above = java.math.BigInteger.valueOf(cells).pow(a[1]);
        java.math.BigInteger below = java.math.BigInteger.valueOf(16).pow(a[1]);
        java.math.BigInteger common = above.gcd(below);
        return (a[2] == 0 ? above : below).divide(common).longValueExact();
    }

    private long now(int what) {
        switch (what) {
            case 0:
                return w.day;
            case 1:
                return w.guns;
            case 2:
                return w.met();
            case 3:
                return w.set(o -> o.cell / 8 != o.side);
            case 4:
                return w.set(o -> o.season > 0);
            case 5:
                return w.people.stream().mapToInt(o -> 1 << o.cell).reduce(0, (x, y) -> x | y);
            case 6:
                return w.people.stream().mapToLong(o -> w.people.stream().filter(o::meets).count()).sum() / 2;
            case 7:
                int most = w.people.stream().mapToInt(o -> o.met).max().orElse(-1);
                return most < 0 ? -1 : Integer.numberOfTrailingZeros(w.set(o -> o.met == most));
            default:
                throw ALL[BEYOND];
        }
    }

    private int firstDay(Predicate<World> is) {
        World later = w.later(0);
        for (int n = 0; n <= 200; n++) {
            if (is.test(later)) {
                return n;
            }
            later.pass();
        }
        throw ALL[NONE];
    }

    private long ahead(String name, int[] a) {
        switch (name) {
            case "ahead":
                one(a[0]);
                ask(List.of(2, 3, 5, 7).contains(a[1]), BEYOND);
                range(a[2], 0, 100);
                World later = w.later(a[2]);
                return later.people.get(a[0]).get(a[1], later);
            case "noise":
                range(a[0], 0, 100);
                return w.later(a[0]).guns;
            case "stills":
                range(a[0], 0, 99);
                return firstDay(x -> x.guns <= a[0]);
            case "meets":
                one(a[0]);
                range(a[1], 0, 9999);
                return firstDay(x -> x.people.get(a[0]).met >= a[1]);
            default:
                return firstDay(x -> x.people.stream().allMatch(o -> o.season == 0));
        }
    }

    private World with(int person, int what, int v) {
        World x = new World(w);
        x.people.get(person).put(what, v);
        return x;
    }

    private long plan(String name, int[] a) {
        if (name.equals("placeFor")) {
            range(a[0], 0, 5);
        } else if (!name.equals("leaveOut")) {
            one(a[0]);
        }
        if (name.equals("seasonFor")) {
            range(a[1], 0, 9999);
        }
        int n = a[a.length - 1];
        range(n, 0, name.equals("leaveOut") ? 20 : 40);
        switch (name) {
            case "placeFor":
                int[] byCell = new int[16];
                for (int cell = 0; cell < 16; cell++) {
                    World x = new World(w);
                    x.list[a[0]] = cell;
                    byCell[cell] = x.later(n).guns;
                }
                return firstLeast(byCell);
            case "kindFor":
                int[] byKind = new int[7];
                for (int kind = 0; kind < 7; kind++) {
                    byKind[kind] = with(a[0], 0, kind).later(n).guns;
                }
                return firstLeast(byKind);
            case "seasonFor":
                for (int season = 0; season <= 99; season++) {
                    if (with(a[0], 3, season).later(n).people.get(a[0]).met >= a[1]) {
                        return season;
                    }
                }
                throw ALL[NONE];
            case "bagsFor":
                int most = -1;
                for (int bags = 0; bags <= 9; bags++) {
                    if (with(a[0], 4, bags).later(n).people.get(a[0]).met > one(a[0]).met) {
                        most = bags;
                    }
                }
                ask(most >= 0, NONE);
                return most;
            default:
                return leaveOut(n);
        }
    }

    private static int firstLeast(int[] row) {
        int least = Arrays.stream(row).min().getAsInt();
        int i = 0;
        while (row[i] != least) {
            i++;
        }
        return i;
    }

    private long leaveOut(int n) {
        int best = -1;
        for (int set = 0; set < 1 << w.people.size(); set++) {
            World x = new World(w);
            for (int i = 0; i < x.people.size(); i++) {
                if ((set & 1 << i) != 0) {
                    x.people.get(i).season = 0;
                }
            }
            boolean fewer = best < 0 || Integer.bitCount(set) < Integer.bitCount(best);
            if (fewer && x.later(n).met() == w.met()) {
                best = set;
            }
        }
        ask(best >= 0, NONE);
        return best;
    }

    private long texts(String name, int[] a) {
        switch (name) {
            case "feed":
                range(a[1], 1, 4);
                ask(tape.length() + a[1] <= 120, FULL);
                for (int i = a[1] - 1; i >= 0; i--) {
                    tape.append((char) (a[0] >>> 8 * i & 255));
                }
                return tape.length();
            case "wipe":
                int had = tape.length();
                tape = new StringBuilder();
                return had;
            case "text":
                return text();
            case "hold":
                range(a[0], 0, 9);
                range(a[1], -1, w.people.size() - 1);
                w.spots[a[0]] = a[1];
                return 1;
            default:
                range(a[0], 0, 9);
                range(a[1], 0, 6);
                ask(w.spots[a[0]] >= 0, MISSING);
                Walker held = KINDS[one(w.spots[a[0]]).kind];
                ask(KINDS[a[1]].getClass().isInstance(held), KIND);
                return w.spots[a[0]];
        }
    }

    private static final Pattern TOKEN = Pattern.compile("[a-z]+|[0-9]+|;|[^ ]");
    private List<String> tokens;
    private List<Integer> begins;
    private int at;

    private static final class Fault extends Exception {
        private static final long serialVersionUID = 1L;
    }

    private long text() {
        tokens = new ArrayList<>();
        begins = new ArrayList<>();
        Matcher m = Pattern.compile(TOKEN.pattern(), Pattern.DOTALL).matcher(tape);
        while (m.find()) {
            tokens.add(m.group());
            begins.add(m.start());
        }
        begins.add(tape.length());
        tape = new StringBuilder();
        at = 0;
        World x = new World(w);
        try {
            int items = 0;
            do {
                item(x);
                items++;
            } while (is(";"));
            if (at < tokens.size()) {
                throw new Fault();
            }
            w = x;
            return items;
        } catch (Fault f) {
            return -1 - begins.get(at);
        }
    }

    private boolean is(String token) {
        boolean is = at < tokens.size() && tokens.get(at).equals(token);
        at += is ? 1 : 0;
        return is;
    }

    private int number(int most) throws Fault {
        if (at >= tokens.size() || !tokens.get(at).matches("[0-9]+")
                || new java.math.BigInteger(tokens.get(at)).compareTo(java.math.BigInteger.valueOf(most)) > 0) {
            throw new Fault();
        }
        return Integer.parseInt(tokens.get(at++).replaceFirst("^0+(?=.)", ""));
    }

    private void item(World x) throws Fault {
        if (is("guns")) {
            x.guns = number(99);
            return;
        }
        if (is("place")) {
            int i = number(5);
            x.list[i] = number(15);
            return;
        }
        int kind = at < tokens.size() ? WORDS.indexOf(tokens.get(at)) : -1;
        if (kind < 0 || x.people.size() == 8) {
            throw new Fault();
        }
        at++;
        One o = new One(kind, number(1));
        o.cell = is("at") ? number(15) : o.cell;
        o.season = is("season") ? number(99) : 30;
        o.bags = is("bags") ? number(9) : 0;
        o.met = is("met") ? number(9999) : 0;
        x.people.add(o);
    }

    private long[] there(int s) {
        range(s, 0, 3);
        ask(sheets[s] != null, MISSING);
        return sheets[s];
    }

    private long sheets(String name, int[] a) {
        range(a[0], 0, 3);
        if (name.equals("sheet")) {
            ask(List.of(0, 8, 16, 32).contains(a[1]), BEYOND);
            ask(a[2] >= 0, SIZE);
            range(a[2], 0, 40);
            bits[a[0]] = a[1];
            sheets[a[0]] = a[1] == 0 ? null : new long[a[2]];
            return a[1] == 0 ? 0 : a[2];
        }
        if (name.equals("copy")) {
            return copy(a);
        }
        long[] row = there(a[0]);
        switch (name) {
            case "write":
                range(a[1], 0, row.length - 1);
                row[a[1]] = (long) a[2] << 64 - bits[a[0]] >> 64 - bits[a[0]];
                return 1;
            case "load":
                int came = 0;
                for (long v : row) {
                    if (came == w.people.size() || v < 0 || v > 99) {
                        break;
                    }
                    w.people.get(came++).season = (int) v;
                }
                return came;
            case "judge":
                for (int i = 0; i < row.length; i++) {
                    if (i >= w.people.size() || w.people.get(i).cell != row[i]) {
                        return i + 1;
                    }
                }
                return 0;
            default:
                one(a[1]);
                int set = 0;
                boolean cells = name.equals("fits");
                for (int v = 0; v < (cells ? 16 : 7); v++) {
                    set |= goesAs(row, a[1], with(a[1], cells ? 2 : 0, v)) ? 1 << v : 0;
                }
                return set;
        }
    }

    private static boolean goesAs(long[] row, int person, World x) {
        boolean so = true;
        for (int i = 0; i < row.length; i++) {
            so &= row[i] == -1 || x.later(i + 1).people.get(person).cell == row[i];
        }
        return so;
    }

    private long copy(int[] a) {
        range(a[2], 0, 3);
        there(a[0]);
        there(a[2]);
        ask(bits[a[0]] == bits[a[2]], KIND);
        ask(a[1] >= 0 && a[3] >= 0 && a[4] >= 0, BEYOND);
        ask((long) a[1] + a[4] <= sheets[a[0]].length && (long) a[3] + a[4] <= sheets[a[2]].length, BEYOND);
        long[] were = sheets[a[0]].clone();
        for (int i = 0; i < a[4]; i++) {
            sheets[a[2]][a[3] + i] = were[a[1] + i];
        }
        return a[4];
    }

    private long images(String name, int[] a) {
        switch (name) {
            case "image":
                kept = new World(w);
                return 1;
            case "undo":
                ask(kept != null, NONE);
                w = new World(kept);
                return w.day;
            case "tear":
                int had = kept == null ? 0 : 1;
                kept = null;
                return had;
            case "count":
                range(a[0], 0, 7);
                long[] counts = {w.day, w.people.size(), w.guns, w.met(), w.people.stream().filter(o -> o.season > 0).count(),
                    tape.length(), w.z, Arrays.stream(w.spots).filter(p -> p >= 0).count()};
                return counts[a[0]];
            default:
                range(a[0], -1, 6);
                return a[0] < 0 ? Arrays.stream(status).sum() : status[a[0]];
        }
    }
}
