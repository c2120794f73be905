/** A foot-tunnel under a river, where people of two sides at war meet, day by day, as a list tells. */
public final class TunnelPeace {
    private static final int LOW = -1000001;
    private static final int BEYOND = LOW;
    private static final int FULL = LOW - 1;
    private static final int KIND = LOW - 2;
    private static final int NONE = LOW - 3;
    private static final int STATE = LOW - 4;
    private static final int MISSING = LOW - 5;
    private static final int SIZE = LOW - 6;
    private static final int FINDINGS = 7;

    private static final int CELLS = 16;
    private static final int LAST_CELL = 15;
    private static final int LEFT_OF_STRIPE = 7;
    private static final int RIGHT_OF_STRIPE = 8;
    private static final int MOST_GUNS = 99;
    private static final int FIRST_GUNS = 50;
    private static final int PLACES = 6;
    private static final int MOST_PEOPLE = 8;
    private static final int FIRST_SEASON = 30;
    private static final int LAST_DAY = 99999;
    private static final int SPOTS = 10;
    private static final int SHEETS = 4;
    private static final int LONGEST_SHEET = 40;
    private static final int LONGEST_TAPE = 120;
    private static final int MOST_FED = 4;

    private static final int LONGEST_GO = 60;
    private static final int LONGEST_STROLL = 20;
    private static final int FARTHEST_LOOK = 100;
    private static final int FARTHEST_SEARCH = 200;
    private static final int FARTHEST_PLAN = 40;
    private static final int FARTHEST_LEAVING = 20;
    private static final int MOST_ODDS_CELLS = 15;

    private static final int WALKER = 0;
    private static final int MERCHANT = 1;
    private static final int SOLDIER = 2;
    private static final int GENERAL = 3;
    private static final int MARSHAL = 4;
    private static final int CHILD = 5;
    private static final int BRIDE = 6;
    private static final int LAST_KIND = 6;
    private static final int[] KIND_ABOVE = {-1, WALKER, WALKER, SOLDIER, GENERAL, WALKER, MERCHANT};

    private static final int OF_KIND = 0;
    private static final int OF_SIDE = 1;
    private static final int OF_CELL = 2;
    private static final int OF_SEASON = 3;
    private static final int OF_BAGS = 4;
    private static final int OF_MET = 5;
    private static final int OF_STEPS = 6;
    private static final int OF_CROSSES = 7;
    private static final int OF_CALMS = 8;
    private static final int OF_TIRES = 9;
    private static final int[] MOST_OF = {LAST_KIND, 1, LAST_CELL, 99, 9, 9999};

    private final Tunnel tunnel = new Tunnel();
    private final Tunnel trial = new Tunnel();
    private final Tunnel kept = new Tunnel();
    private boolean keeps = false;
    private final Forecast forecast = new Forecast(tunnel, trial);
    private final Tape tape = new Tape();
    private final Sheet[] sheets = new Sheet[SHEETS];
    private final int[] findings = new int[FINDINGS];

    public TunnelPeace() {
        for (int s = 0; s < SHEETS; s++) {
            sheets[s] = new Sheet();
        }
    }

    // ---- tunnel

    public int guns(int v) {
        if (!within(v, MOST_GUNS)) {
            return found(BEYOND);
        }
        int was = tunnel.guns;
        tunnel.guns = v;
        return was;
    }

    public int place(int i, int cell) {
        if (!within(i, PLACES - 1) || !within(cell, LAST_CELL)) {
            return found(BEYOND);
        }
        int was = tunnel.list[i];
        tunnel.list[i] = cell;
        return was;
    }

    public int listed(int i) {
        return within(i, PLACES - 1) ? tunnel.list[i] : found(BEYOND);
    }

    public int person(int kind, int side) {
        if (!within(kind, LAST_KIND) || !within(side, 1)) {
            return found(BEYOND);
        }
        if (tunnel.isFull()) {
            return found(FULL);
        }
        return tunnel.add(kind, side);
    }

    public int of(int person, int what) {
        if (!tunnel.has(person) || !within(what, OF_TIRES)) {
            return found(BEYOND);
        }
        return tunnel.told(person, what);
    }

    public int change(int person, int what, int v) {
        if (!tunnel.has(person) || !within(what, OF_MET) || !within(v, MOST_OF[what])) {
            return found(BEYOND);
        }
        int was = tunnel.told(person, what);
        tunnel.people[person].set(what, v);
        return was;
    }

    public int who(int cell) {
        return within(cell, LAST_CELL) ? tunnel.peopleAt(cell) : found(BEYOND);
    }

    public int two(int a, int b) {
        if (!tunnel.has(a) || !tunnel.has(b) || a == b) {
            return found(BEYOND);
        }
        return tunnel.people[a].wouldMeet(tunnel.people[b]) ? 1 : 0;
    }

    // ---- days

    public int go(int n) {
        if (!within(n - 1, LONGEST_GO - 1)) {
            return found(BEYOND);
        }
        if (!tunnel.hasDays(n)) {
            return found(STATE);
        }
        tunnel.passDays(n);
        return tunnel.guns;
    }

    public int now(int what) {
        switch (what) {
            case 0:
                return tunnel.day;
            case 1:
                return tunnel.guns;
            case 2:
                return tunnel.allMet();
            case 3:
                return tunnel.peopleAbroad();
            case 4:
                return tunnel.peopleWithSeason();
            case 5:
                return tunnel.cellsTaken();
            case 6:
                return tunnel.pairsMeeting();
            case 7:
                return tunnel.whoMetMost();
            default:
                return found(BEYOND);
        }
    }

    // ---- what will be (nothing changes)

    public int ahead(int person, int what, int n) {
        boolean foreseen = what == OF_CELL || what == OF_SEASON || what == OF_MET || what == OF_CROSSES;
        if (!tunnel.has(person) || !foreseen || !within(n, FARTHEST_LOOK)) {
            return found(BEYOND);
        }
        return forecast.behind(n).told(person, what);
    }

    public int noise(int n) {
        return within(n, FARTHEST_LOOK) ? forecast.behind(n).guns : found(BEYOND);
    }

    public int stills(int v) {
        return within(v, MOST_GUNS) ? orNone(forecast.daysTillGuns(v)) : found(BEYOND);
    }

    public int meets(int person, int v) {
        if (!tunnel.has(person) || !within(v, MOST_OF[OF_MET])) {
            return found(BEYOND);
        }
        return orNone(forecast.daysTillMet(person, v));
    }

    public int lapses() {
        return orNone(forecast.daysTillNoSeason());
    }

    // ---- where to meet

    public int placeFor(int i, int n) {
        if (!within(i, PLACES - 1) || !within(n, FARTHEST_PLAN)) {
            return found(BEYOND);
        }
        return forecast.stillestCell(i, n);
    }

    public int kindFor(int person, int n) {
        if (!tunnel.has(person) || !within(n, FARTHEST_PLAN)) {
            return found(BEYOND);
        }
        return forecast.stillestKind(person, n);
    }

    public int seasonFor(int person, int v, int n) {
        if (!tunnel.has(person) || !within(v, MOST_OF[OF_MET]) || !within(n, FARTHEST_PLAN)) {
            return found(BEYOND);
        }
        return orNone(forecast.leastSeason(person, v, n));
    }

    public int bagsFor(int person, int n) {
        if (!tunnel.has(person) || !within(n, FARTHEST_PLAN)) {
            return found(BEYOND);
        }
        return orNone(forecast.mostBags(person, n));
    }

    public int leaveOut(int n) {
        return within(n, FARTHEST_LEAVING) ? orNone(forecast.fewestLeftOut(n)) : found(BEYOND);
    }

    // ---- told places

    public int fits(int s, int person) {
        int finding = toldFinding(s, person);
        return finding < 0 ? found(finding) : forecast.valuesAsTold(sheets[s], person, OF_CELL);
    }

    public int kinds(int s, int person) {
        int finding = toldFinding(s, person);
        return finding < 0 ? found(finding) : forecast.valuesAsTold(sheets[s], person, OF_KIND);
    }

    // ---- days by draws

    public int stroll(int n) {
        if (!within(n - 1, LONGEST_STROLL - 1)) {
            return found(BEYOND);
        }
        if (!tunnel.hasDays(n)) {
            return found(STATE);
        }
        for (int i = 0; i < n; i++) {
            tunnel.passDrawnDay();
        }
        return tunnel.guns;
    }

    public long odds(int person, int n, int what) {
        if (!tunnel.has(person) || !within(n, MOST_ODDS_CELLS) || !within(what, 1)) {
            return found(BEYOND);
        }
        int above = tunnel.cellsToMeetAt(person);
        int common = commonDivisor(above, CELLS);
        return power((what == 0 ? above : CELLS) / common, n);
    }

    public int seed(int v) {
        int was = tunnel.z;
        tunnel.z = v;
        return was;
    }

    // ---- texts

    public int feed(int bytes, int n) {
        if (!within(n - 1, MOST_FED - 1)) {
            return found(BEYOND);
        }
        if (n > LONGEST_TAPE - tape.length) {
            return found(FULL);
        }
        tape.append(bytes, n);
        return tape.length;
    }

    public int wipe() {
        int had = tape.length;
        tape.length = 0;
        return had;
    }

    public int text() {
        // Read into the trial, so that a fault behind good items leaves the tunnel as it is.
        trial.become(tunnel);
        int answer = tape.readInto(trial);
        if (answer >= 0) {
            tunnel.become(trial);
        }
        tape.length = 0;
        return answer;
    }

    // ---- spots, sheets

    public int hold(int spot, int person) {
        if (!within(spot, SPOTS - 1) || person != -1 && !tunnel.has(person)) {
            return found(BEYOND);
        }
        tunnel.spots[spot] = person;
        return 1;
    }

    public int as(int spot, int kind) {
        if (!within(spot, SPOTS - 1) || !within(kind, LAST_KIND)) {
            return found(BEYOND);
        }
        int held = tunnel.spots[spot];
        if (!tunnel.has(held)) {
            return found(MISSING);
        }
        return tunnel.people[held].isA(kind) ? held : found(KIND);
    }

    public int sheet(int s, int bits, int n) {
        if (!within(s, SHEETS - 1) || bits != 0 && bits != 8 && bits != 16 && bits != 32) {
            return found(BEYOND);
        }
        if (n < 0) {
            return found(SIZE);
        }
        if (n > LONGEST_SHEET) {
            return found(BEYOND);
        }
        sheets[s].begin(bits, n);
        return sheets[s].length;
    }

    public int write(int s, int i, int v) {
        int finding = sheetFinding(s);
        if (finding < 0) {
            return found(finding);
        }
        if (!within(i, sheets[s].length - 1)) {
            return found(BEYOND);
        }
        sheets[s].put(i, v);
        return 1;
    }

    public int copy(int s, int from, int t, int to, int n) {
        if (!within(s, SHEETS - 1) || !within(t, SHEETS - 1)) {
            return found(BEYOND);
        }
        if (sheets[s].isMissing() || sheets[t].isMissing()) {
            return found(MISSING);
        }
        if (sheets[s].bits != sheets[t].bits) {
            return found(KIND);
        }
        if (!sheets[s].hasRange(from, n) || !sheets[t].hasRange(to, n)) {
            return found(BEYOND);
        }
        System.arraycopy(sheets[s].numbers, from, sheets[t].numbers, to, n);
        return n;
    }

    public int load(int s) {
        int finding = sheetFinding(s);
        return finding < 0 ? found(finding) : sheets[s].giveSeasons(tunnel);
    }

    public int judge(int s) {
        int finding = sheetFinding(s);
        return finding < 0 ? found(finding) : sheets[s].firstWrongCell(tunnel) + 1;
    }

    // ---- images

    public int image() {
        kept.become(tunnel);
        keeps = true;
        return 1;
    }

    public int undo() {
        if (!keeps) {
            return found(NONE);
        }
        tunnel.become(kept);
        return tunnel.day;
    }

    public int tear() {
        int had = keeps ? 1 : 0;
        keeps = false;
        return had;
    }

    public int count(int what) {
        switch (what) {
            case 0:
                return tunnel.day;
            case 1:
                return tunnel.size;
            case 2:
                return tunnel.guns;
            case 3:
                return tunnel.allMet();
            case 4:
                return Integer.bitCount(tunnel.peopleWithSeason());
            case 5:
                return tape.length;
            case 6:
                return tunnel.z;
            case 7:
                return tunnel.spotsTaken();
            default:
                return found(BEYOND);
        }
    }

    public int status(int which) {
        if (which == -1) {
            return allFindings();
        }
        return within(which, FINDINGS - 1) ? findings[which] : found(BEYOND);
    }

    // ---- help for the calls above

    private static boolean within(int v, int most) {
        return v >= 0 && v <= most;
    }

    /** Every finding is answered through here, so that status() counts it. */
    private int found(int finding) {
        int which = LOW - finding;
        if (within(which, FINDINGS - 1)) {
            findings[which]++;
        }
        return finding;
    }

    private int orNone(int answer) {
        return answer < 0 ? found(NONE) : answer;
    }

    private int allFindings() {
        int all = 0;
        for (int which = 0; which < FINDINGS; which++) {
            all += findings[which];
        }
        return all;
    }

    /** What is wrong with asking for sheet s: BEYOND, MISSING, or 0 if nothing is. */
    private int sheetFinding(int s) {
        if (!within(s, SHEETS - 1)) {
            return BEYOND;
        }
        return sheets[s].isMissing() ? MISSING : 0;
    }

    /** The same for what sheet s tells of one of the people. */
    private int toldFinding(int s, int person) {
        int finding = sheetFinding(s);
        if (finding < 0) {
            return finding;
        }
        return tunnel.has(person) ? 0 : BEYOND;
    }

    /** Only for a above 0 or b above 0, so that the answer is 1 at least. */
    private static int commonDivisor(int a, int b) {
        int divisor = Math.max(1, Math.max(a, b));
        while (divisor > 1 && (a % divisor != 0 || b % divisor != 0)) {
            divisor--;
        }
        return divisor;
    }

    private static long power(long base, int n) {
        long product = 1;
        for (int i = 0; i < n; i++) {
            product *= base;
        }
        return product;
    }

    /** One of the people. */
    private static final class Person {
        int kind;
        int side;
        int cell;
        int season;
        int bags;
        int met;

        void begin(int newKind, int newSide) {
            kind = newKind;
            side = newSide;
            cell = lift();
            season = FIRST_SEASON;
            bags = 0;
            met = 0;
        }

        void become(Person other) {
            kind = other.kind;
            side = other.side;
            cell = other.cell;
            season = other.season;
            bags = other.bags;
            met = other.met;
        }

        void set(int what, int v) {
            switch (what) {
                case OF_KIND:
                    kind = v;
                    break;
                case OF_SIDE:
                    side = v;
                    break;
                case OF_CELL:
                    cell = v;
                    break;
                case OF_SEASON:
                    season = v;
                    break;
                case OF_BAGS:
                    bags = v;
                    break;
                case OF_MET:
                    met = v;
                    break;
                default:
                    break;
            }
        }

        int lift() {
            return side == 0 ? 0 : LAST_CELL;
        }

        boolean isAbroad() {
            return side == 0 ? cell > LEFT_OF_STRIPE : cell < RIGHT_OF_STRIPE;
        }

        boolean isA(int wanted) {
            int at = kind;
            for (int level = 0; level <= LAST_KIND && within(at, LAST_KIND); level++) {
                if (at == wanted) {
                    return true;
                }
                at = KIND_ABOVE[at];
            }
            return false;
        }

        int steps(int day) {
            int walker = Math.max(1, 3 - bags);
            int merchant = Math.max(1, walker - 1);
            int soldier = walker + 1;
            switch (kind) {
                case MERCHANT:
                    return merchant;
                case BRIDE:
                    return merchant + 2;
                case SOLDIER:
                    return soldier;
                case GENERAL:
                case MARSHAL:
                    return Math.max(1, soldier / 2);
                case CHILD:
                    return day % 2;
                default:
                    return walker;
            }
        }

        boolean crosses(int guns) {
            switch (kind) {
                case BRIDE:
                    return met >= 5;
                case SOLDIER:
                    return guns == 0;
                case GENERAL:
                    return guns <= 20;
                case MARSHAL:
                    return guns <= 20 || met % 2 == 1;
                case CHILD:
                    return true;
                default:
                    return false;
            }
        }

        int calms() {
            int walker = 1;
            int merchant = walker + 1;
            int soldier = 0;
            int general = soldier + 5;
            switch (kind) {
                case MERCHANT:
                    return merchant;
                case BRIDE:
                    return 3 * merchant;
                case SOLDIER:
                    return soldier;
                case GENERAL:
                    return general;
                case MARSHAL:
                    return 2 * general;
                case CHILD:
                    return walker + 9;
                default:
                    return walker;
            }
        }

        int tires(int day) {
            int walker = 1;
            switch (kind) {
                case BRIDE:
                    return day % 3 == 0 ? 2 : walker;
                case SOLDIER:
                case GENERAL:
                case MARSHAL:
                    return walker + 1;
                case CHILD:
                    return 0;
                default:
                    return walker;
            }
        }

        void walk(int place, int day, int guns) {
            boolean goesHome = season == 0;
            int from = cell;
            int target = goesHome ? lift() : place;
            int steps = steps(day);
            cell = from < target ? Math.min(target, from + steps) : Math.max(target, from - steps);
            if (!goesHome && !crosses(guns)) {
                stopAheadOfStripe(from);
            }
        }

        private void stopAheadOfStripe(int from) {
            if (from <= LEFT_OF_STRIPE) {
                cell = Math.min(cell, LEFT_OF_STRIPE);
            } else {
                cell = Math.max(cell, RIGHT_OF_STRIPE);
            }
        }

        boolean wouldMeet(Person other) {
            return wouldMeetAt(cell, other);
        }

        boolean wouldMeetAt(int here, Person other) {
            if (side == other.side) {
                return false;
            }
            return here == other.cell
                    || here == LEFT_OF_STRIPE && other.cell == RIGHT_OF_STRIPE
                    || here == RIGHT_OF_STRIPE && other.cell == LEFT_OF_STRIPE;
        }

        void countMeeting() {
            met = Math.min(MOST_OF[OF_MET], met + 1);
        }

        void endDay(int day) {
            if (cell == lift()) {
                bags = 0;
            }
            season = Math.max(0, season - tires(day));
        }
    }

    /** All that an image keeps: the tunnel with its people, the days, the draws and the spots. */
    private static final class Tunnel {
        int day = 0;
        int guns = FIRST_GUNS;
        int z = 1;
        int size = 0;
        final int[] list = {7, 7, 7, 7, 7, 7};
        final Person[] people = new Person[MOST_PEOPLE];
        final int[] spots = {-1, -1, -1, -1, -1, -1, -1, -1, -1, -1};

        Tunnel() {
            for (int i = 0; i < MOST_PEOPLE; i++) {
                people[i] = new Person();
            }
        }

        void become(Tunnel other) {
            day = other.day;
            guns = other.guns;
            z = other.z;
            size = other.size;
            System.arraycopy(other.list, 0, list, 0, PLACES);
            System.arraycopy(other.spots, 0, spots, 0, SPOTS);
            for (int i = 0; i < size; i++) {
                people[i].become(other.people[i]);
            }
        }

        boolean has(int person) {
            return person >= 0 && person < size;
        }

        boolean isFull() {
            return size >= MOST_PEOPLE;
        }

        /** Only where it isn't full. */
        int add(int kind, int side) {
            people[size].begin(kind, side);
            size++;
            return size - 1;
        }

        int told(int person, int what) {
            Person one = people[person];
            switch (what) {
                case OF_KIND:
                    return one.kind;
                case OF_SIDE:
                    return one.side;
                case OF_CELL:
                    return one.cell;
                case OF_SEASON:
                    return one.season;
                case OF_BAGS:
                    return one.bags;
                case OF_MET:
                    return one.met;
                case OF_STEPS:
                    return one.steps(day);
                case OF_CROSSES:
                    return one.crosses(guns) ? 1 : 0;
                case OF_CALMS:
                    return one.calms();
                default:
                    return one.tires(day);
            }
        }

        boolean hasDays(int n) {
            return n <= LAST_DAY - day;
        }

        void passDays(int n) {
            for (int i = 0; i < n; i++) {
                passDay();
            }
        }

        void passDay() {
            int place = list[day % PLACES];
            for (int i = 0; i < size; i++) {
                people[i].walk(place, day, guns);
            }
            meetAll();
            if (guns > 0) {
                guns = Math.min(MOST_GUNS, guns + 5);
            }
            for (int i = 0; i < size; i++) {
                people[i].endDay(day);
            }
            day = Math.min(LAST_DAY, day + 1);
        }

        private void meetAll() {
            for (int a = 0; a < size; a++) {
                Person one = people[a];
                for (int b = a + 1; b < size; b++) {
                    Person other = people[b];
                    if (one.wouldMeet(other)) {
                        one.countMeeting();
                        other.countMeeting();
                        guns = Math.max(0, guns - one.calms() - other.calms());
                    }
                }
            }
        }

        void passDrawnDay() {
            list[day % PLACES] = draw() % CELLS;
            int person = draw() % MOST_PEOPLE;
            if (has(person)) {
                people[person].bags = Math.min(MOST_OF[OF_BAGS], people[person].bags + 1);
            }
            passDay();
        }

        private int draw() {
            z = z * 1103515245 + 12345;
            return z >>> 8;
        }

        int allMet() {
            int all = 0;
            for (int i = 0; i < size; i++) {
                all += people[i].met;
            }
            return all;
        }

        int peopleAt(int cell) {
            int set = 0;
            for (int i = 0; i < size; i++) {
                if (people[i].cell == cell) {
                    set |= 1 << i;
                }
            }
            return set;
        }

        int peopleAbroad() {
            int set = 0;
            for (int i = 0; i < size; i++) {
                if (people[i].isAbroad()) {
                    set |= 1 << i;
                }
            }
            return set;
        }

        int peopleWithSeason() {
            int set = 0;
            for (int i = 0; i < size; i++) {
                if (people[i].season > 0) {
                    set |= 1 << i;
                }
            }
            return set;
        }

        int cellsTaken() {
            int set = 0;
            for (int i = 0; i < size; i++) {
                set |= 1 << people[i].cell;
            }
            return set;
        }

        int pairsMeeting() {
            int pairs = 0;
            for (int a = 0; a < size; a++) {
                for (int b = a + 1; b < size; b++) {
                    if (people[a].wouldMeet(people[b])) {
                        pairs++;
                    }
                }
            }
            return pairs;
        }

        int whoMetMost() {
            int best = -1;
            for (int i = 0; i < size; i++) {
                if (best < 0 || people[i].met > people[best].met) {
                    best = i;
                }
            }
            return best;
        }

        /** How many cells there are at which one would meet somebody. */
        int cellsToMeetAt(int person) {
            int cells = 0;
            for (int cell = 0; cell < CELLS; cell++) {
                if (meetsSomebodyAt(person, cell)) {
                    cells++;
                }
            }
            return cells;
        }

        private boolean meetsSomebodyAt(int person, int cell) {
            for (int i = 0; i < size; i++) {
                if (people[person].wouldMeetAt(cell, people[i])) {
                    return true;
                }
            }
            return false;
        }

        int spotsTaken() {
            int taken = 0;
            for (int spot = 0; spot < SPOTS; spot++) {
                if (spots[spot] >= 0) {
                    taken++;
                }
            }
            return taken;
        }

        void endSeasons(int set) {
            for (int i = 0; i < size; i++) {
                if ((set >> i & 1) == 1) {
                    people[i].season = 0;
                }
            }
        }
    }

    /** Days tried out on a second tunnel, so that the first one stays as it is. Below 0 means: none. */
    private static final class Forecast {
        private final Tunnel now;
        private final Tunnel trial;

        Forecast(Tunnel now, Tunnel trial) {
            this.now = now;
            this.trial = trial;
        }

        Tunnel behind(int n) {
            trial.become(now);
            trial.passDays(n);
            return trial;
        }

        int daysTillGuns(int v) {
            trial.become(now);
            for (int n = 0; n <= FARTHEST_SEARCH; n++) {
                if (trial.guns <= v) {
                    return n;
                }
                trial.passDay();
            }
            return -1;
        }

        int daysTillMet(int person, int v) {
            trial.become(now);
            for (int n = 0; n <= FARTHEST_SEARCH; n++) {
                if (trial.people[person].met >= v) {
                    return n;
                }
                trial.passDay();
            }
            return -1;
        }

        int daysTillNoSeason() {
            trial.become(now);
            for (int n = 0; n <= FARTHEST_SEARCH; n++) {
                if (trial.peopleWithSeason() == 0) {
                    return n;
                }
                trial.passDay();
            }
            return -1;
        }

        int stillestCell(int place, int n) {
            int best = 0;
            int least = MOST_GUNS + 1;
            for (int cell = 0; cell < CELLS; cell++) {
                trial.become(now);
                trial.list[place] = cell;
                trial.passDays(n);
                if (trial.guns < least) {
                    least = trial.guns;
                    best = cell;
                }
            }
            return best;
        }

        int stillestKind(int person, int n) {
            int best = 0;
            int least = MOST_GUNS + 1;
            for (int kind = 0; kind <= LAST_KIND; kind++) {
                tryWith(person, OF_KIND, kind);
                trial.passDays(n);
                if (trial.guns < least) {
                    least = trial.guns;
                    best = kind;
                }
            }
            return best;
        }

        int leastSeason(int person, int v, int n) {
            // Nobody tires by more than 2 a day, so a season above 2 * n does what 2 * n does.
            int longest = Math.min(MOST_OF[OF_SEASON], 2 * n);
            for (int season = 0; season <= longest; season++) {
                tryWith(person, OF_SEASON, season);
                trial.passDays(n);
                if (trial.people[person].met >= v) {
                    return season;
                }
            }
            return -1;
        }

        int mostBags(int person, int n) {
            for (int bags = MOST_OF[OF_BAGS]; bags >= 0; bags--) {
                tryWith(person, OF_BAGS, bags);
                trial.passDays(n);
                if (trial.people[person].met > now.people[person].met) {
                    return bags;
                }
            }
            return -1;
        }

        int fewestLeftOut(int n) {
            int sets = 1 << now.size;
            for (int many = 0; many <= now.size; many++) {
                for (int set = 0; set < sets; set++) {
                    if (Integer.bitCount(set) == many && keepsApart(set, n)) {
                        return set;
                    }
                }
            }
            return -1;
        }

        private boolean keepsApart(int set, int n) {
            trial.become(now);
            trial.endSeasons(set);
            int met = now.allMet();
            for (int i = 0; i < n; i++) {
                trial.passDay();
                // It never becomes less again, so the other days need no look.
                if (trial.allMet() != met) {
                    return false;
                }
            }
            return true;
        }

        /** Which values of one's cell or kind lead it where the sheet tells, as a set. */
        int valuesAsTold(Sheet sheet, int person, int what) {
            int set = 0;
            for (int v = 0; v <= MOST_OF[what]; v++) {
                tryWith(person, what, v);
                if (goesAsTold(sheet, person)) {
                    set |= 1 << v;
                }
            }
            return set;
        }

        private boolean goesAsTold(Sheet sheet, int person) {
            for (int i = 0; i < sheet.length; i++) {
                trial.passDay();
                int told = sheet.numbers[i];
                if (told != -1 && told != trial.people[person].cell) {
                    return false;
                }
            }
            return true;
        }

        private void tryWith(int person, int what, int v) {
            trial.become(now);
            trial.people[person].set(what, v);
        }
    }

    /** A row of numbers; of 0 bits: it is missing. */
    private static final class Sheet {
        int bits = 0;
        int length = 0;
        final int[] numbers = new int[LONGEST_SHEET];

        boolean isMissing() {
            return bits == 0;
        }

        void begin(int newBits, int n) {
            bits = newBits;
            length = newBits == 0 ? 0 : n;
            for (int i = 0; i < LONGEST_SHEET; i++) {
                numbers[i] = 0;
            }
        }

        void put(int i, int v) {
            switch (bits) {
                case 8:
                    numbers[i] = (byte) v;
                    break;
                case 16:
                    numbers[i] = (short) v;
                    break;
                default:
                    numbers[i] = v;
                    break;
            }
        }

        boolean hasRange(int from, int n) {
            return from >= 0 && n >= 0 && from <= length && n <= length - from;
        }

        int giveSeasons(Tunnel tunnel) {
            int came = 0;
            while (came < length && tunnel.has(came) && within(numbers[came], MOST_OF[OF_SEASON])) {
                tunnel.people[came].season = numbers[came];
                came++;
            }
            return came;
        }

        /** The place of the first number that isn't the cell of its person, or -1. */
        int firstWrongCell(Tunnel tunnel) {
            for (int i = 0; i < length; i++) {
                if (!tunnel.has(i) || tunnel.people[i].cell != numbers[i]) {
                    return i;
                }
            }
            return -1;
        }
    }

    /** The tape, and how it is read as a text: at each time there is one token, the next to be taken. */
    private static final class Tape {
        private static final int END = 0;
        private static final int WORD = 1;
        private static final int NUMBER = 2;
        private static final int SEMICOLON = 3;
        private static final int NO_TOKEN = 4;
        private static final int ABOVE_ALL_NUMBERS = 10000;

        int length = 0;
        private final byte[] bytes = new byte[LONGEST_TAPE];
        private int token;
        private int begin;
        private int end;
        private int number;

        /** Only where there is room for n more. */
        void append(int four, int n) {
            for (int i = n - 1; i >= 0; i--) {
                bytes[length] = (byte) (four >> 8 * i);
                length++;
            }
        }

        /** How many items there are, or -1 less the fault; then the tunnel is half changed. */
        int readInto(Tunnel tunnel) {
            end = 0;
            advance();
            int items = 0;
            boolean more = true;
            // Each item has more than one byte, so the bytes bound the items.
            while (more && items < LONGEST_TAPE) {
                boolean good = takeWord("place") ? takePlace(tunnel)
                        : takeWord("guns") ? takeGuns(tunnel)
                        : takePerson(tunnel);
                if (!good) {
                    return -1 - begin;
                }
                items++;
                more = takeSemicolon();
            }
            return token == END ? items : -1 - begin;
        }

        private boolean takePlace(Tunnel tunnel) {
            int place = takeNumber(PLACES - 1);
            if (place < 0) {
                return false;
            }
            int cell = takeNumber(LAST_CELL);
            if (cell < 0) {
                return false;
            }
            tunnel.list[place] = cell;
            return true;
        }

        private boolean takeGuns(Tunnel tunnel) {
            int guns = takeNumber(MOST_GUNS);
            if (guns < 0) {
                return false;
            }
            tunnel.guns = guns;
            return true;
        }

        private boolean takePerson(Tunnel tunnel) {
            // A 9th one's word is a fault itself, so it isn't taken where nobody has room.
            int kind = tunnel.isFull() ? -1 : takeKind();
            if (kind < 0) {
                return false;
            }
            int side = takeNumber(1);
            if (side < 0) {
                return false;
            }
            Person one = tunnel.people[tunnel.add(kind, side)];
            return takeOption("at", one, OF_CELL)
                    && takeOption("season", one, OF_SEASON)
                    && takeOption("bags", one, OF_BAGS)
                    && takeOption("met", one, OF_MET);
        }

        private int takeKind() {
            for (int kind = 0; kind <= LAST_KIND; kind++) {
                if (takeWord(kindWord(kind))) {
                    return kind;
                }
            }
            return -1;
        }

        private static String kindWord(int kind) {
            switch (kind) {
                case MERCHANT:
                    return "merchant";
                case SOLDIER:
                    return "soldier";
                case GENERAL:
                    return "general";
                case MARSHAL:
                    return "marshal";
                case CHILD:
                    return "child";
                case BRIDE:
                    return "bride";
                default:
                    return "walker";
            }
        }

        private boolean takeOption(String word, Person one, int what) {
            if (!takeWord(word)) {
                return true;
            }
            int v = takeNumber(MOST_OF[what]);
            if (v < 0) {
                return false;
            }
            one.set(what, v);
            return true;
        }

        private boolean takeWord(String word) {
            if (token != WORD || end - begin != word.length()) {
                return false;
            }
            for (int i = 0; i < word.length(); i++) {
                if (bytes[begin + i] != word.charAt(i)) {
                    return false;
                }
            }
            advance();
            return true;
        }

        /** The number, or -1 where there is none of 0 to most. */
        private int takeNumber(int most) {
            if (token != NUMBER || number > most) {
                return -1;
            }
            int taken = number;
            advance();
            return taken;
        }

        private boolean takeSemicolon() {
            if (token != SEMICOLON) {
                return false;
            }
            advance();
            return true;
        }

        private void advance() {
            begin = end;
            while (begin < length && bytes[begin] == ' ') {
                begin++;
            }
            end = begin;
            token = begin < length ? tokenOf(bytes[begin]) : END;
            number = 0;
            boolean grows = true;
            while (grows && end < length && tokenOf(bytes[end]) == token) {
                if (token == NUMBER) {
                    // There may be more digits than an int holds.
                    number = Math.min(ABOVE_ALL_NUMBERS, number * 10 + bytes[end] - '0');
                }
                end++;
                grows = token == WORD || token == NUMBER;
            }
        }

        /** The token that a byte begins. */
        private static int tokenOf(byte first) {
            if (first >= 'a' && first <= 'z') {
                return WORD;
            }
            if (first >= '0' && first <= '9') {
                return NUMBER;
            }
            return first == ';' ? SEMICOLON : NO_TOKEN;
        }
    }
}
