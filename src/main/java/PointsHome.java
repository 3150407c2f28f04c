import java.util.Arrays;

/** An army that goes home man by man. What each call answers stands in ../shared/DOC.md. */
public final class PointsHome {
    public static final int BAD = -1, NOT = -2, FULL = -3, VOID = -2000000000;

    private static final int NOTHING_THERE = -11, OTHER_KIND = -12, NO_SUCH_SPOT = -13, SIZE_BELOW_0 = -14;

    private static final int LAST_DAY = 700;
    private static final int MOST_PLACES = 20, MOST_BODIES = 200, MOST_ENTRIES = 600;
    private static final int MOST_RULES = 20, MOST_SHIPS = 16, TAPE_BYTES = 240, CRAFTS = 10;

    private static final int AT_PLACE = 0, ON_TRAIN = 1, ON_SHIP = 2, SICK = 3, HOME = 4, GONE = 5, DEAD = 6;

    private static final int HOLDER = 0, MAN = 1, CLERK = 2, BRIDE = 3, UNIT = 4, GUARD = 5, DRAFT = 6, MARSHAL = 7;

    // Far above every sum of days, and low enough that a few of them can be added.
    private static final int NEVER = 1000000;

    private final Places places;
    private final Bodies bodies;
    private final Shelves shelves;
    private final Files files;
    private final Tape tape;
    private final Rules rules;
    private final Fleet fleet;
    private final Relief relief;
    private final Voyages voyages;
    private final Shutting shutting;
    private final Line lowLine;

    public PointsHome() {
        places = new Places();
        bodies = new Bodies(places);
        shelves = new Shelves();
        files = new Files(places, bodies);
        tape = new Tape();
        rules = new Rules(places, bodies, files);
        fleet = new Fleet(places, bodies, rules);
        relief = new Relief(places, bodies, rules);
        voyages = new Voyages(places, fleet);
        shutting = new Shutting(places);
        lowLine = new Line();
    }

    private static boolean within(int v, int least, int most) {
        return v >= least && v <= most;
    }

    private static boolean isDay(int day) {
        return day >= 0 && day <= LAST_DAY;
    }

    // ---- places, days

    public int place(int what, int beds) {
        return places.found(what, beds);
    }

    public int rail(int a, int b, int days, int seats) {
        return places.layRail(a, b, days, seats);
    }

    public int far(int a, int b) {
        if (!places.isPlace(a) || !places.isPlace(b)) {
            return BAD;
        }
        int way = places.wayBetween(a, b);
        return way >= NEVER ? NOT : way;
    }

    public int days(int n) {
        if (!within(n, 1, 60) || places.today + n > LAST_DAY) {
            return BAD;
        }
        for (int i = 0; i < n; i++) {
            places.beginDay();
            bodies.comeFromTrains();
            fleet.beginDay();
            bodies.getWell();
        }
        return places.today;
    }

    // ---- bodies

    public int body(int kind) {
        if (kind != HOLDER && kind != UNIT && kind != DRAFT) {
            return BAD;
        }
        return bodies.add(kind);
    }

    public int man(int unit, int craft, int age, int place) {
        return bodies.enlist(unit, craft, age, place);
    }

    public int bride(int man) {
        return bodies.wed(man);
    }

    public int guard(int place, int marshal) {
        return bodies.setGuard(place, marshal);
    }

    public int need(int guard, int craft, int n) {
        return bodies.ask(guard, craft, n);
    }

    public int unit(int man, int unit) {
        return bodies.moveToUnit(man, unit);
    }

    public int ofBody(int body, int what) {
        return bodies.tellOf(body, what);
    }

    public int sick(int man, int n) {
        return bodies.fallSick(man, n);
    }

    public int lost(int man, int how) {
        if (!bodies.isMan(man) || how != GONE && how != DEAD) {
            return BAD;
        }
        int state = bodies.state[man];
        if (state >= HOME || how == GONE && state != AT_PLACE) {
            return NOT;
        }
        if (state == ON_SHIP) {
            fleet.strikeOff(bodies.at[man], bodies.ill[man]);
        }
        bodies.lose(man, how);
        return 1;
    }

    // ---- files

    public int entry(int man, int sort, int day, int paper) {
        return files.write(man, sort, day, paper);
    }

    public int prove(int entry) {
        return files.acceptProof(entry);
    }

    public int known(int man, int what, int k) {
        if (!bodies.isMan(man) || !isDay(k)) {
            return BAD;
        }
        boolean truth = what >= 10;
        int fact = truth ? what - 10 : what;
        if (!within(fact, 0, 4)) {
            return BAD;
        }
        files.gather(man, k, k, truth);
        return files.facts[fact];
    }

    public int doubles(int what) {
        return files.tellDoubles(what);
    }

    public int files(int man, int shelf, int i, int n) {
        if (!bodies.isMan(man) || !shelves.isShelf(shelf) || !within(n, 1, 20)) {
            return BAD;
        }
        int holds = shelves.holds[shelf];
        if (holds > Shelves.SHORTS) {
            return OTHER_KIND;
        }
        return files.readRow(man, shelves, shelf, i, n);
    }

    public int blank(int v) {
        int was = files.blankNumber;
        files.blankNumber = v;
        return was;
    }

    // ---- rules

    public int feed(int a, int b, int c, int d, int e) {
        if (tape.length + 20 > TAPE_BYTES) {
            return FULL;
        }
        tape.append(a);
        tape.append(b);
        tape.append(c);
        tape.append(d);
        tape.append(e);
        return tape.length;
    }

    public int end(int n) {
        if (n < 0 || n > tape.length) {
            return BAD;
        }
        tape.length = n;
        return n;
    }

    public int rule(int from) {
        if (!within(from, places.today, LAST_DAY)) {
            return BAD;
        }
        if (rules.many >= MOST_RULES) {
            return FULL;
        }
        int fault = tape.translate();
        tape.length = 0;
        return fault >= 0 ? -100 - fault : rules.add(from, tape);
    }

    public int inForce(int place, int day, int k) {
        if (!places.isPlace(place) || !isDay(day) || !isDay(k)) {
            return BAD;
        }
        int rule = rules.ruling(place, day, k);
        return rule < 0 ? NOT : rule;
    }

    public int judged(int man, int day, int k, int what) {
        boolean office = what >= 10;
        int asked = office ? what - 10 : what;
        if (!bodies.isMan(man) || !isDay(day) || !isDay(k) || !within(asked, 0, 5)) {
            return VOID;
        }
        if (office) {
            rules.judge(man, rules.ruling(0, day, k), day, k);
        } else {
            int heardBy = bodies.lastHeard(man, k);
            rules.judge(man, rules.ruling(bodies.left[man], day, heardBy), day, heardBy);
        }
        return rules.tellVerdict(man, asked);
    }

    public int tried(int rule, int what) {
        if (!rules.isRule(rule) || !within(what, 0, 2)) {
            return BAD;
        }
        return rules.tryOut(rule, what);
    }

    // ---- trains, ships

    public int train(int man, int to) {
        return bodies.takeTrain(man, to);
    }

    public int ship(int port, int berths, int passage) {
        return fleet.add(port, berths, passage);
    }

    public int repair(int ship, int day) {
        return fleet.mend(ship, day);
    }

    public int why(int man, int ship) {
        if (!bodies.isMan(man) || !fleet.isShip(ship)) {
            return BAD;
        }
        return fleet.hindrance(man, ship);
    }

    public int next(int ship) {
        if (!fleet.isShip(ship)) {
            return BAD;
        }
        fleet.listWilling(ship);
        int man = fleet.pickFirst(ship);
        return man < 0 ? NOT : man;
    }

    public int load(int man, int ship) {
        if (!bodies.isMan(man) || !fleet.isShip(ship)) {
            return BAD;
        }
        int why = fleet.hindrance(man, ship);
        return why != 0 ? -20 - why : fleet.takeAboard(man, ship);
    }

    public int fill(int ship) {
        if (!fleet.isShip(ship)) {
            return BAD;
        }
        fleet.listWilling(ship);
        return fleet.loadWilling(ship);
    }

    public int sail(int ship, int back) {
        return fleet.putToSea(ship, back);
    }

    public int ofShip(int ship, int what) {
        return fleet.tellOf(ship, what);
    }

    // ---- plans

    public int post(int place, int what) {
        return relief.tellPost(place, what);
    }

    public int ready(int man) {
        return relief.tellMan(man);
    }

    public int relief() {
        return relief.plan();
    }

    public int relieved(int i) {
        return relief.postOf(i);
    }

    public int turn(int sort, int v) {
        return voyages.tell(sort, v);
    }

    public int voyages(int days) {
        return voyages.plan(days);
    }

    public int voyage(int i) {
        return voyages.choice(i);
    }

    public int shut(int place, int what, int ahead) {
        return shutting.tell(place, what, ahead);
    }

    public int bread() {
        return shutting.plan();
    }

    public int order(int i) {
        return shutting.placeAt(i);
    }

    public int have(int score, int n) {
        return lowLine.tellMen(score, n);
    }

    public int berths(int row, int week, int n) {
        return lowLine.tellBerths(row, week, n);
    }

    public int line(int w, int r, int within) {
        if (!within(w, 0, 7) || !within(r, 1, 4) || !within(within, 1, 4)) {
            return BAD;
        }
        return lowLine.lowOf(w, r, within);
    }

    // ---- acts, shelves

    public int act(int body, int act, int x) {
        return bodies.startAct(body, act, x);
    }

    public int trace(int i) {
        return bodies.traceAt(i);
    }

    public int keep(int shelf, int body) {
        if (!shelves.isShelf(shelf) || body != -1 && !bodies.isBody(body)) {
            return BAD;
        }
        return shelves.holdBody(shelf, body);
    }

    public int row(int shelf, int sort, int n) {
        return shelves.holdRow(shelf, sort, n);
    }

    public int put(int shelf, int i, long v) {
        int refusal = shelves.refusal(shelf, i);
        if (refusal != 0) {
            return refusal;
        }
        shelves.store(shelf, i, v);
        return 1;
    }

    public long element(int shelf, int i) {
        return shelves.refusal(shelf, i) != 0 ? Long.MIN_VALUE : shelves.read(shelf, i);
    }

    public int shift(int shelf, int i, int other, int j, int n) {
        return shelves.copy(shelf, i, other, j, n);
    }

    public int taken(int shelf, int k) {
        if (!shelves.isShelf(shelf) || !within(k, HOLDER, MARSHAL)) {
            return BAD;
        }
        int holds = shelves.holds[shelf];
        if (holds == Shelves.NOTHING) {
            return NOTHING_THERE;
        }
        if (holds != Shelves.BODY || !bodies.isUnder(shelves.bodyOn[shelf], k)) {
            return OTHER_KIND;
        }
        return bodies.tellOf(shelves.bodyOn[shelf], 0);
    }

    public int check() {
        if (bodies.someBedsShort()) {
            return 1;
        }
        if (fleet.someBerthsShort()) {
            return 2;
        }
        return bodies.someGuardShort() ? 3 : 0;
    }

    public int count(int what) {
        if (within(what, 8, 14)) {
            return bodies.countState(what - 8);
        }
        switch (what) {
            case 0:
                return places.many;
            case 1:
                return bodies.many;
            case 2:
                return bodies.men;
            case 3:
                return files.many;
            case 4:
                return rules.many;
            case 5:
                return places.today;
            case 6:
                return fleet.many;
            case 7:
                return tape.length;
            case 15:
                return bodies.ran;
            default:
                return BAD;
        }
    }

    /** Places and rails, and the day, which every other part looks at. */
    private static final class Places {
        int today;
        int many;
        private final int[] land = new int[MOST_PLACES];
        private final int[] sort = new int[MOST_PLACES];
        private final int[] beds = new int[MOST_PLACES];
        private final int[] railDays = new int[MOST_PLACES * MOST_PLACES];
        private final int[] seats = new int[MOST_PLACES * MOST_PLACES];
        private final int[] seatsUsed = new int[MOST_PLACES * MOST_PLACES];
        private final int[] way = new int[MOST_PLACES * MOST_PLACES];

        boolean isPlace(int place) {
            return place >= 0 && place < many;
        }

        boolean isPort(int place) {
            return isPlace(place) && sort[place] == 1;
        }

        int landOf(int place) {
            return isPlace(place) ? land[place] : 0;
        }

        int bedsOf(int place) {
            return isPlace(place) ? beds[place] : 0;
        }

        int found(int what, int bedsThere) {
            if (!within(what, 0, 81) || what % 10 > 1 || !within(bedsThere, 1, 999)) {
                return BAD;
            }
            if (many >= MOST_PLACES) {
                return FULL;
            }
            land[many] = what / 10;
            sort[many] = what % 10;
            beds[many] = bedsThere;
            for (int other = 0; other < many; other++) {
                way[spot(many, other)] = NEVER;
                way[spot(other, many)] = NEVER;
            }
            many++;
            return many - 1;
        }

        private static int spot(int a, int b) {
            return a * MOST_PLACES + b;
        }

        // One rail has one spot, whichever way it is named.
        private static int railSpot(int a, int b) {
            return spot(Math.min(a, b), Math.max(a, b));
        }

        int layRail(int a, int b, int daysTold, int seatsTold) {
            if (!isPlace(a) || !isPlace(b) || a == b || !within(daysTold, 1, 9) || !within(seatsTold, 1, 99)) {
                return BAD;
            }
            int rail = railSpot(a, b);
            seats[rail] = seatsTold;
            if (railDays[rail] == 0 || daysTold < railDays[rail]) {
                railDays[rail] = daysTold;
            }
            if (daysTold < way[spot(a, b)]) {
                shortenWays(a, b, daysTold);
            }
            return railDays[rail];
        }

        // Rails only come or grow shorter, so the ways through the new one are all that can change.
        private void shortenWays(int a, int b, int daysTold) {
            for (int from = 0; from < many; from++) {
                int toA = way[spot(from, a)] + daysTold;
                int toB = way[spot(from, b)] + daysTold;
                for (int to = 0; to < many; to++) {
                    int through = Math.min(toA + way[spot(b, to)], toB + way[spot(a, to)]);
                    if (through < way[spot(from, to)]) {
                        way[spot(from, to)] = through;
                    }
                }
            }
        }

        /** NEVER, if there is none. */
        int wayBetween(int a, int b) {
            return isPlace(a) && isPlace(b) ? way[spot(a, b)] : NEVER;
        }

        /** 0, if there is no rail. */
        int daysByRail(int a, int b) {
            return isPlace(a) && isPlace(b) ? railDays[railSpot(a, b)] : 0;
        }

        boolean seatFree(int a, int b) {
            return isPlace(a) && isPlace(b) && seatsUsed[railSpot(a, b)] < seats[railSpot(a, b)];
        }

        void takeSeat(int a, int b) {
            if (isPlace(a) && isPlace(b)) {
                seatsUsed[railSpot(a, b)]++;
            }
        }

        void beginDay() {
            today++;
            Arrays.fill(seatsUsed, 0);
        }
    }

    /** Bodies of all kinds: where men are, what guards ask for, and the acts by kind. */
    private static final class Bodies {
        private static final int COUNTS = 0, MOVES = 1, KEEPS = 2, TELLS = 3;
        // The act's own body by kind and act; 0 where the kind takes it over from above.
        private static final int[] OWN_BODY = {
            1, 10, 11, 2,
            20, 0, 0, 21,
            0, 30, 0, 0,
            0, 0, 40, 0,
            50, 51, 0, 0,
            0, 0, 60, 0,
            0, 0, 0, 70,
            80, 81, 0, 0
        };
        private static final int[] ABOVE = {-1, HOLDER, MAN, HOLDER, HOLDER, UNIT, UNIT, GUARD};
        private static final int TRACE_KEPT = 24, DEEPEST_ACT = 40;

        private final Places places;
        int many;
        int men;
        int ran;
        private final int[] kind = new int[MOST_BODIES];
        private final int[] unitOf = new int[MOST_BODIES];
        final int[] craft = new int[MOST_BODIES];
        final int[] age = new int[MOST_BODIES];
        /** What a man is; -1 of bodies that are no men. */
        final int[] state = new int[MOST_BODIES];
        /** The place (of a train: to which; of a guard: his), or the ship, or -1. */
        final int[] at = new int[MOST_BODIES];
        private final int[] till = new int[MOST_BODIES];
        /** The place where a man is, or which he left. */
        final int[] left = new int[MOST_BODIES];
        private final int[] leftDay = new int[MOST_BODIES];
        private final int[] brideOf = new int[MOST_BODIES];
        final boolean[] unscored = new boolean[MOST_BODIES];
        final boolean[] ill = new boolean[MOST_BODIES];
        // What a guard asks for, four bits a craft: few bodies are guards.
        private final long[] needs = new long[MOST_BODIES];
        private final int[] askedFor = new int[MOST_PLACES * CRAFTS];
        private final int[] present = new int[MOST_PLACES * CRAFTS];
        private final int[] trail = new int[TRACE_KEPT];

        Bodies(Places places) {
            this.places = places;
        }

        boolean isBody(int body) {
            return body >= 0 && body < many;
        }

        boolean isMan(int body) {
            return body >= 0 && body < many && state[body] >= 0;
        }

        boolean isUnder(int body, int k) {
            int above = isBody(body) ? kind[body] : -1;
            for (int step = 0; step < 4 && above >= 0 && above != k; step++) {
                above = ABOVE[above];
            }
            return above == k;
        }

        private boolean mayBeUnit(int body) {
            return body == -1 || isUnder(body, UNIT);
        }

        int add(int ofKind) {
            if (many >= MOST_BODIES) {
                return FULL;
            }
            kind[many] = ofKind;
            unitOf[many] = -1;
            state[many] = -1;
            at[many] = -1;
            till[many] = -1;
            brideOf[many] = -1;
            many++;
            return many - 1;
        }

        int enlist(int unit, int craftTold, int ageTold, int place) {
            if (!mayBeUnit(unit) || !within(craftTold, 0, 9) || !within(ageTold, 17, 60) || !places.isPlace(place)) {
                return BAD;
            }
            if (!bedFree(place)) {
                return NOT;
            }
            int man = add(craftTold == 0 ? MAN : CLERK);
            if (isBody(man)) {
                unitOf[man] = unit;
                craft[man] = craftTold;
                age[man] = ageTold;
                state[man] = AT_PLACE;
                at[man] = place;
                left[man] = place;
                men++;
            }
            return man;
        }

        int wed(int man) {
            if (!isMan(man)) {
                return BAD;
            }
            if (brideOf[man] >= 0) {
                return NOT;
            }
            int bride = add(BRIDE);
            if (bride >= 0) {
                brideOf[man] = bride;
            }
            return bride;
        }

        boolean hasBride(int man) {
            return isMan(man) && brideOf[man] >= 0;
        }

        int setGuard(int place, int marshal) {
            if (!places.isPlace(place) || !within(marshal, 0, 1)) {
                return BAD;
            }
            int guard = add(marshal == 1 ? MARSHAL : GUARD);
            if (isBody(guard)) {
                at[guard] = place;
            }
            return guard;
        }

        int ask(int guard, int craftTold, int n) {
            if (!isUnder(guard, GUARD) || !within(craftTold, 0, 9) || !within(n, 0, 9)) {
                return BAD;
            }
            int shift = 4 * craftTold;
            int was = (int) (needs[guard] >> shift & 15L);
            needs[guard] += (long) (n - was) << shift;
            if (places.isPlace(at[guard])) {
                askedFor[at[guard] * CRAFTS + craftTold] += n - was;
            }
            return was;
        }

        int moveToUnit(int man, int unit) {
            if (!isMan(man) || !mayBeUnit(unit)) {
                return VOID;
            }
            int was = unitOf[man];
            unitOf[man] = unit;
            return was;
        }

        // A man without a unit stands alone.
        boolean sameUnit(int man, int other) {
            return man == other || isMan(man) && isMan(other) && unitOf[man] >= 0 && unitOf[man] == unitOf[other];
        }

        int tellOf(int body, int what) {
            if (!isBody(body)) {
                return VOID;
            }
            if (what == 0) {
                return kind[body];
            }
            return isMan(body) ? tellOfMan(body, what) : VOID;
        }

        private int tellOfMan(int man, int what) {
            switch (what) {
                case 1:
                    return unitOf[man];
                case 2:
                    return craft[man];
                case 3:
                    return age[man];
                case 4:
                    return state[man];
                case 5:
                    return at[man];
                case 6:
                    return till[man];
                case 7:
                    return unscored[man] ? 1 : 0;
                case 8:
                    return left[man];
                case 9:
                    return brideOf[man];
                default:
                    return VOID;
            }
        }

        int countState(int wanted) {
            int n = 0;
            for (int man = 0; man < many; man++) {
                if (state[man] == wanted) {
                    n++;
                }
            }
            return n;
        }

        private static boolean holdsBed(int what) {
            return what == AT_PLACE || what == ON_TRAIN || what == SICK;
        }

        private int bedsHeld(int place) {
            int n = 0;
            for (int man = 0; man < many; man++) {
                if (at[man] == place && holdsBed(state[man])) {
                    n++;
                }
            }
            return n;
        }

        private boolean bedFree(int place) {
            return bedsHeld(place) < places.bedsOf(place);
        }

        boolean someBedsShort() {
            for (int place = 0; place < places.many; place++) {
                if (bedsHeld(place) > places.bedsOf(place)) {
                    return true;
                }
            }
            return false;
        }

        private void countPresent() {
            Arrays.fill(present, 0);
            for (int man = 0; man < many; man++) {
                if (state[man] == AT_PLACE && places.isPlace(at[man]) && within(craft[man], 0, 9)) {
                    present[at[man] * CRAFTS + craft[man]]++;
                }
            }
        }

        boolean someGuardShort() {
            countPresent();
            for (int i = 0; i < places.many * CRAFTS && i < present.length; i++) {
                if (present[i] < askedFor[i]) {
                    return true;
                }
            }
            return false;
        }

        /** By craft: how many more are at a place than its guards ask for; who makes it go below 0 is needed. */
        void countSpare(int place, int[] spare) {
            countPresent();
            for (int c = 0; c < CRAFTS && c < spare.length; c++) {
                spare[c] = places.isPlace(place) ? present[place * CRAFTS + c] - askedFor[place * CRAFTS + c] : 0;
            }
        }

        boolean isNeeded(int man) {
            if (!isMan(man) || state[man] != AT_PLACE || !places.isPlace(at[man]) || !within(craft[man], 0, 9)) {
                return false;
            }
            int here = 0;
            for (int other = 0; other < many; other++) {
                if (state[other] == AT_PLACE && at[other] == at[man] && craft[other] == craft[man]) {
                    here++;
                }
            }
            return here - 1 < askedFor[at[man] * CRAFTS + craft[man]];
        }

        int fallSick(int man, int n) {
            if (!isMan(man) || !within(n, 1, 60)) {
                return BAD;
            }
            if (state[man] != AT_PLACE) {
                return NOT;
            }
            state[man] = SICK;
            till[man] = places.today + n;
            return 1;
        }

        void lose(int man, int how) {
            if (!isMan(man)) {
                return;
            }
            if (state[man] == AT_PLACE || state[man] == SICK) {
                leftDay[man] = places.today;
            }
            state[man] = how;
            at[man] = -1;
            till[man] = places.today;
            ill[man] = false;
        }

        int takeTrain(int man, int to) {
            if (!isMan(man) || !places.isPlace(to)) {
                return BAD;
            }
            int from = at[man];
            if (state[man] != AT_PLACE || places.daysByRail(from, to) == 0 || !places.seatFree(from, to)) {
                return NOT;
            }
            if (isNeeded(man) || !bedFree(to)) {
                return NOT;
            }
            places.takeSeat(from, to);
            state[man] = ON_TRAIN;
            leftDay[man] = places.today;
            at[man] = to;
            till[man] = places.today + places.daysByRail(from, to);
            return till[man];
        }

        void boardShip(int man, int ship) {
            if (isMan(man)) {
                state[man] = ON_SHIP;
                leftDay[man] = places.today;
                at[man] = ship;
                till[man] = -1;
                ill[man] = false;
            }
        }

        void landAll(int ship) {
            for (int man = 0; man < many; man++) {
                if (state[man] == ON_SHIP && at[man] == ship) {
                    state[man] = HOME;
                    at[man] = -1;
                    ill[man] = false;
                }
            }
        }

        void spreadSickness(int ship, int n) {
            int still = n;
            for (int man = 0; man < many && still > 0; man++) {
                if (state[man] == ON_SHIP && at[man] == ship && !ill[man]) {
                    ill[man] = true;
                    still--;
                }
            }
        }

        void comeFromTrains() {
            for (int man = 0; man < many; man++) {
                if (state[man] == ON_TRAIN && till[man] <= places.today) {
                    state[man] = AT_PLACE;
                    left[man] = at[man];
                    till[man] = -1;
                }
            }
        }

        void getWell() {
            for (int man = 0; man < many; man++) {
                if (state[man] == SICK && till[man] <= places.today) {
                    state[man] = AT_PLACE;
                    till[man] = -1;
                }
            }
        }

        /** What comes to be known behind the day on which a man left reaches him no more. */
        int lastHeard(int man, int k) {
            if (!isMan(man) || state[man] == AT_PLACE || state[man] == SICK) {
                return k;
            }
            return Math.min(k, leftDay[man]);
        }

        int startAct(int body, int act, int x) {
            ran = 0;
            if (!isBody(body) || !within(act, COUNTS, TELLS)) {
                return 0;
            }
            return perform(body, kind[body], act, x, 0);
        }

        int traceAt(int i) {
            return i >= 0 && i < ran && i < TRACE_KEPT ? trail[i] : BAD;
        }

        private int own(int body, int act, int x, int depth) {
            return perform(body, kind[body], act, x, depth);
        }

        private int perform(int body, int fromKind, int act, int x, int depth) {
            int k = fromKind;
            for (int step = 0; step < 4 && k >= 0 && OWN_BODY[k * 4 + act] == 0; step++) {
                k = ABOVE[k];
            }
            if (k < 0 || depth >= DEEPEST_ACT) {
                return 0;
            }
            int number = OWN_BODY[k * 4 + act];
            if (ran < TRACE_KEPT) {
                trail[ran] = number;
            }
            ran++;
            return number < 40 ? performAbove(body, number, x, depth + 1) : performBelow(body, number, x, depth + 1);
        }

        // In each sum the part written first runs first: the trace tells it.
        private int performAbove(int body, int number, int x, int depth) {
            switch (number) {
                case 1:
                    return x + body;
                case 2:
                    return own(body, KEEPS, x, depth) ^ own(body, MOVES, x, depth);
                case 10:
                    return own(body, COUNTS, x, depth) * 2;
                case 11:
                    return x - body;
                case 20:
                    return perform(body, HOLDER, COUNTS, x, depth) + age[body];
                case 21:
                    return perform(body, HOLDER, TELLS, x, depth) + 1;
                case 30:
                    return perform(body, MAN, MOVES, x, depth) - craft[body];
                default:
                    return 0;
            }
        }

        private int performBelow(int body, int number, int x, int depth) {
            switch (number) {
                case 40:
                    return -perform(body, HOLDER, KEEPS, x, depth);
                case 50:
                    return membersOf(body) + x;
                case 51:
                    return perform(body, HOLDER, MOVES, x + 1, depth);
                case 60:
                    return perform(body, UNIT, KEEPS, x, depth) * 3 + own(body, COUNTS, x, depth);
                case 70:
                    return perform(body, UNIT, TELLS, x, depth) + own(body, MOVES, 1, depth);
                case 80:
                    return perform(body, GUARD, COUNTS, x, depth) ^ 5;
                case 81:
                    return perform(body, GUARD, MOVES, x, depth) - perform(body, GUARD, KEEPS, x, depth);
                default:
                    return 0;
            }
        }

        private int membersOf(int unit) {
            int n = 0;
            for (int man = 0; man < many; man++) {
                if (state[man] >= 0 && unitOf[man] == unit) {
                    n++;
                }
            }
            return n;
        }
    }

    /** What is written of men, and from which day on it counts. */
    private static final class Files {
        private static final int LONGEST = 66;

        private final Places places;
        private final Bodies bodies;
        int many;
        int blankNumber = -1;
        private final int[] owner = new int[MOST_ENTRIES];
        private final int[] sort = new int[MOST_ENTRIES];
        private final int[] day = new int[MOST_ENTRIES];
        private final int[] paper = new int[MOST_ENTRIES];
        /** The day from which on it is known; NEVER while a claim isn't proved. */
        private final int[] since = new int[MOST_ENTRIES];
        // A man's entries are a chain, so that judging him doesn't go through all of them.
        private final int[] earlier = new int[MOST_ENTRIES];
        private final int[] latest = new int[MOST_BODIES];
        private int twos;
        private int firstOfTwo = MOST_ENTRIES;
        private int secondOfTwo;
        /** Months, wounds, medals, children, battles, by the latest gather. */
        final int[] facts = new int[5];
        private boolean cameOver;
        private final int[] tally = new int[LONGEST + 1];

        Files(Places places, Bodies bodies) {
            this.places = places;
            this.bodies = bodies;
            Arrays.fill(latest, -1);
        }

        int write(int man, int sortTold, int dayTold, int paperTold) {
            if (!bodies.isMan(man) || !within(sortTold, 0, 4) || !within(dayTold, -2000, places.today)) {
                return BAD;
            }
            if (!within(paperTold, 0, 99999)) {
                return BAD;
            }
            if (many >= MOST_ENTRIES) {
                return FULL;
            }
            if (paperTold != 0) {
                findTwos(man, paperTold);
            }
            append(man, sortTold, dayTold, paperTold);
            return many;
        }

        private void append(int man, int sortTold, int dayTold, int paperTold) {
            if (many >= MOST_ENTRIES || !bodies.isMan(man)) {
                return;
            }
            owner[many] = man;
            sort[many] = sortTold;
            day[many] = dayTold;
            paper[many] = paperTold;
            since[many] = paperTold == 0 ? places.today : NEVER;
            earlier[many] = latest[man];
            latest[man] = many;
            many++;
        }

        // The new entry is the greater of each of its twos, so an older first two stays if its lesser one is as low.
        private void findTwos(int man, int paperTold) {
            for (int e = 0; e < many; e++) {
                if (paper[e] == paperTold && owner[e] != man) {
                    twos++;
                    if (e < firstOfTwo) {
                        firstOfTwo = e;
                        secondOfTwo = many;
                    }
                }
            }
        }

        int tellDoubles(int what) {
            if (!within(what, 0, 2)) {
                return BAD;
            }
            if (what == 0) {
                return twos;
            }
            if (firstOfTwo >= many || secondOfTwo >= many) {
                return NOT;
            }
            int a = owner[firstOfTwo];
            int b = owner[secondOfTwo];
            return what == 1 ? Math.min(a, b) : Math.max(a, b);
        }

        int acceptProof(int entry) {
            if (entry < 0 || entry >= many) {
                return BAD;
            }
            if (since[entry] != NEVER) {
                return NOT;
            }
            since[entry] = places.today;
            return 1;
        }

        /** Facts of a man as known on day k (or true by then), his months on day d. */
        void gather(int man, int k, int d, boolean truth) {
            Arrays.fill(facts, 0);
            cameOver = false;
            int first = NEVER;
            int e = within(man, 0, MOST_BODIES - 1) ? latest[man] : -1;
            for (int step = 0; step < MOST_ENTRIES && e >= 0; step++) {
                if ((truth ? day[e] : since[e]) <= k) {
                    if (sort[e] == 0) {
                        cameOver = true;
                        first = Math.min(first, day[e]);
                    } else {
                        facts[sort[e]]++;
                    }
                }
                e = earlier[e];
            }
            facts[0] = first <= d ? (d - first) / 30 : 0;
        }

        int readRow(int man, Shelves shelves, int shelf, int i, int n) {
            for (int t = 0; t < n; t++) {
                // Ahead of its first element the row is missing as it is behind its last.
                if (i < 0 || shelves.lengthOf(shelf) - 3 * t - 3 < i) {
                    return stopUnscored(man, t);
                }
                int spot = i + 3 * t;
                int sortRead = unblank((int) shelves.read(shelf, spot), 0);
                int month = monthRead(man, (int) shelves.read(shelf, spot + 1));
                int howMany = unblank((int) shelves.read(shelf, spot + 2), 1);
                if (!within(sortRead, 0, 4) || !within(month, 0, LONGEST) || !within(howMany, 0, 9)) {
                    return stopUnscored(man, t);
                }
                if (many + howMany > MOST_ENTRIES) {
                    return t;
                }
                for (int copy = 0; copy < howMany; copy++) {
                    append(man, sortRead, -30 * month, 0);
                }
            }
            bodies.unscored[man] = false;
            return n;
        }

        private int stopUnscored(int man, int whole) {
            bodies.unscored[man] = true;
            return whole;
        }

        private int unblank(int read, int instead) {
            return read == blankNumber ? instead : read;
        }

        private int monthRead(int man, int read) {
            return read == blankNumber ? middleMonths(man) : read;
        }

        private int middleMonths(int man) {
            Arrays.fill(tally, 0);
            int counted = 0;
            for (int other = 0; other < bodies.many; other++) {
                if (bodies.isMan(other) && bodies.sameUnit(man, other)) {
                    gather(other, places.today, places.today, false);
                    if (cameOver) {
                        tally[Math.min(facts[0], LONGEST)]++;
                        counted++;
                    }
                }
            }
            int upTo = 0;
            for (int months = 0; months < LONGEST; months++) {
                upTo += tally[months];
                if (upTo * 2 >= counted) {
                    return months;
                }
            }
            return LONGEST;
        }
    }

    /** The tape, and the reading of a text from it into a row of steps for a stack. */
    private static final class Tape {
        static final int STEP_NUMBER = 0, STEP_NAME = 1, STEP_SIGN = 2, STEP_OR = 3, STEP_AND = 4, STEP_NOT = 5;
        static final int STEP_SCORE = 6, STEP_SCORE_IF = 7, STEP_LOW = 8, STEP_STAY = 9, STEP_PORT = 10, STEP_PORT_IF = 11;

        private static final String WORDS =
            "score low stay port if or and not months wounds medals children battles craft age land bride day ";
        private static final int NAMES = 10, MOST_OPEN = 8;
        // Tokens: signs are their own bytes; the words follow one another as in WORDS.
        private static final int WORD = 256, SCORE = 256, LOW = 257, STAY = 258, PORT = 259, IF = 260, OR = 261;
        private static final int AND = 262, NO = 263, FIRST_NAME = 264, NUMBER = 300, STRANGE = 301, THE_END = 302;

        int length;
        private final byte[] bytes = new byte[TAPE_BYTES];
        // The tokens in a row, and behind them the end.
        private final int[] tokens = new int[TAPE_BYTES + 1];
        private final int[] starts = new int[TAPE_BYTES + 1];
        private final int[] numbers = new int[TAPE_BYTES + 1];
        private int tokensMany;
        private int at;
        private int token;
        private int fault;
        final int[] steps = new int[TAPE_BYTES];
        int stepsMany;

        void append(int four) {
            for (int shift = 24; shift >= 0; shift -= 8) {
                if (length < TAPE_BYTES) {
                    bytes[length] = (byte) (four >> shift);
                    length++;
                }
            }
        }

        /** The fault, or -1; then the steps are those of the text. */
        int translate() {
            splitTokens();
            at = 0;
            token = tokens[0];
            stepsMany = 0;
            fault = -1;
            readLine();
            for (int lines = 0; lines < TAPE_BYTES && fault < 0 && token == ';'; lines++) {
                advance();
                readLine();
            }
            if (token != THE_END) {
                fail();
            }
            return fault;
        }

        private int byteAt(int i) {
            return i >= 0 && i < length && i < TAPE_BYTES ? bytes[i] & 255 : -1;
        }

        private boolean letterAt(int i) {
            return within(byteAt(i), 'a', 'z');
        }

        private boolean digitAt(int i) {
            return within(byteAt(i), '0', '9');
        }

        private void splitTokens() {
            tokensMany = 0;
            int i = 0;
            while (i < length && tokensMany < TAPE_BYTES) {
                int start = i;
                if (letterAt(i)) {
                    while (i < length && letterAt(i)) {
                        i++;
                    }
                    addToken(wordToken(start, i), start, 0);
                } else if (digitAt(i)) {
                    int number = 0;
                    while (i < length && digitAt(i)) {
                        number = Math.min(10000, number * 10 + byteAt(i) - '0');
                        i++;
                    }
                    addToken(i - start > 4 ? STRANGE : NUMBER, start, number);
                } else {
                    if (byteAt(i) != ' ') {
                        addToken(byteAt(i), start, 0);
                    }
                    i++;
                }
            }
            tokens[tokensMany] = THE_END;
            starts[tokensMany] = length;
        }

        private void addToken(int what, int start, int number) {
            if (tokensMany < TAPE_BYTES) {
                tokens[tokensMany] = what;
                starts[tokensMany] = start;
                numbers[tokensMany] = number;
                tokensMany++;
            }
        }

        private int wordToken(int start, int end) {
            int word = WORD;
            int begin = 0;
            for (int i = 0; i < WORDS.length(); i++) {
                if (WORDS.charAt(i) == ' ') {
                    if (i - begin == end - start && sameLetters(begin, start, end)) {
                        return word;
                    }
                    word++;
                    begin = i + 1;
                }
            }
            return STRANGE;
        }

        private boolean sameLetters(int begin, int start, int end) {
            for (int i = 0; i < end - start && begin + i < WORDS.length(); i++) {
                if (WORDS.charAt(begin + i) != byteAt(start + i)) {
                    return false;
                }
            }
            return true;
        }

        private void advance() {
            if (at < tokensMany) {
                at++;
            }
            token = tokens[at];
        }

        private void fail() {
            if (fault < 0) {
                fault = starts[at];
            }
        }

        private void write(int step, int value) {
            if (stepsMany < TAPE_BYTES) {
                steps[stepsMany] = value << 8 | step;
                stepsMany++;
            }
        }

        private void readLine() {
            int line = token;
            if (line < SCORE || line > PORT) {
                fail();
                return;
            }
            advance();
            int port = numbers[at];
            if (line == STAY) {
                readAny(0);
            } else if (line != PORT) {
                readSum(0);
            } else if (token == NUMBER) {
                advance();
            } else {
                fail();
            }
            boolean tested = fault < 0 && token == IF && (line == SCORE || line == PORT);
            if (tested) {
                advance();
                readAny(0);
            }
            if (line == SCORE) {
                write(tested ? STEP_SCORE_IF : STEP_SCORE, 0);
            } else if (line == PORT) {
                write(tested ? STEP_PORT_IF : STEP_PORT, port);
            } else {
                write(line == LOW ? STEP_LOW : STEP_STAY, 0);
            }
        }

        private void readAny(int open) {
            readAll(open);
            for (int i = 0; i < TAPE_BYTES && fault < 0 && token == OR; i++) {
                advance();
                readAll(open);
                write(STEP_OR, 0);
            }
        }

        private void readAll(int open) {
            readTest(open);
            for (int i = 0; i < TAPE_BYTES && fault < 0 && token == AND; i++) {
                advance();
                readTest(open);
                write(STEP_AND, 0);
            }
        }

        private void readTest(int open) {
            if (fault >= 0) {
                return;
            }
            if (token == NO) {
                if (mayOpen(open)) {
                    readTest(open + 1);
                    write(STEP_NOT, 0);
                }
            } else if (token == '[') {
                if (mayOpen(open)) {
                    readAny(open + 1);
                    close(']');
                }
            } else {
                readSum(open);
                int relation = token;
                if (relation != '<' && relation != '=' && relation != '>') {
                    fail();
                }
                if (fault < 0) {
                    advance();
                    readSum(open);
                    write(STEP_SIGN, relation);
                }
            }
        }

        private void readSum(int open) {
            readProduct(open);
            for (int i = 0; i < TAPE_BYTES && fault < 0 && (token == '+' || token == '-'); i++) {
                int sign = token;
                advance();
                readProduct(open);
                write(STEP_SIGN, sign);
            }
        }

        private void readProduct(int open) {
            readOne(open);
            for (int i = 0; i < TAPE_BYTES && fault < 0 && (token == '*' || token == '/'); i++) {
                int sign = token;
                advance();
                readOne(open);
                write(STEP_SIGN, sign);
            }
        }

        private void readOne(int open) {
            if (fault >= 0) {
                return;
            }
            if (token == NUMBER) {
                write(STEP_NUMBER, numbers[at]);
                advance();
            } else if (token >= FIRST_NAME && token < FIRST_NAME + NAMES) {
                write(STEP_NAME, token - FIRST_NAME);
                advance();
            } else if (token == '(') {
                if (mayOpen(open)) {
                    readSum(open + 1);
                    close(')');
                }
            } else {
                fail();
            }
        }

        private boolean mayOpen(int open) {
            if (open >= MOST_OPEN) {
                fail();
                return false;
            }
            advance();
            return true;
        }

        private void close(int sign) {
            if (token != sign) {
                fail();
            }
            if (fault < 0) {
                advance();
            }
        }
    }

    /** Rules by days, and the judging of men by them. */
    private static final class Rules {
        private static final int NO_LOW = 999, STACK = 80, NAMES = 10;

        private final Places places;
        private final Bodies bodies;
        private final Files files;
        int many;
        private final int[] made = new int[MOST_RULES];
        private final int[] from = new int[MOST_RULES];
        private final int[][] steps = new int[MOST_RULES][];
        private final int[] names = new int[NAMES];
        private final int[] stack = new int[STACK];
        private int height;
        // The verdict of the latest judging.
        int score;
        int low;
        boolean stays;
        int portByRule;
        private int ruledBy;

        Rules(Places places, Bodies bodies, Files files) {
            this.places = places;
            this.bodies = bodies;
            this.files = files;
        }

        boolean isRule(int rule) {
            return rule >= 0 && rule < many;
        }

        int add(int fromDay, Tape tape) {
            if (many >= MOST_RULES) {
                return FULL;
            }
            made[many] = places.today;
            from[many] = fromDay;
            steps[many] = Arrays.copyOf(tape.steps, Math.max(0, tape.stepsMany));
            many++;
            return many - 1;
        }

        /** The rule in force on day d as known at a place on day k, or -1. */
        int ruling(int place, int d, int k) {
            int way = places.wayBetween(0, place);
            for (int rule = many - 1; rule >= 0; rule--) {
                if (made[rule] + way <= k && from[rule] <= d) {
                    return rule;
                }
            }
            return -1;
        }

        void judge(int man, int rule, int d, int k) {
            readNames(man, d, k);
            apply(rule);
        }

        private void readNames(int man, int d, int k) {
            if (!bodies.isMan(man)) {
                return;
            }
            files.gather(man, k, d, false);
            System.arraycopy(files.facts, 0, names, 0, 5);
            names[5] = bodies.craft[man];
            names[6] = bodies.age[man];
            names[7] = places.landOf(bodies.left[man]);
            names[8] = bodies.hasBride(man) ? 1 : 0;
            names[9] = d;
        }

        private void apply(int rule) {
            score = 0;
            low = NO_LOW;
            stays = false;
            portByRule = -1;
            height = 0;
            ruledBy = isRule(rule) ? rule : -1;
            int[] row = ruledBy >= 0 ? steps[ruledBy] : null;
            if (row == null) {
                return;
            }
            for (int i = 0; i < row.length; i++) {
                take(row[i] & 255, row[i] >> 8);
            }
            if (!places.isPort(portByRule)) {
                portByRule = -1;
            }
        }

        private void take(int step, int value) {
            if (step == Tape.STEP_NUMBER) {
                push(value);
            } else if (step == Tape.STEP_NAME) {
                push(within(value, 0, NAMES - 1) ? names[value] : 0);
            } else if (step == Tape.STEP_SIGN) {
                int right = pop();
                push(reckon(pop(), value, right));
            } else if (step >= Tape.STEP_SCORE) {
                takeLine(step, value);
            } else if (step == Tape.STEP_NOT) {
                push(1 - pop());
            } else {
                int right = pop();
                int leftOne = pop();
                push(step == Tape.STEP_OR ? leftOne | right : leftOne & right);
            }
        }

        // A line begins on an empty stack: its points or its test lie lowest, the test of points above them.
        private void takeLine(int step, int value) {
            int first = stack[0];
            int second = stack[1];
            height = 0;
            switch (step) {
                case Tape.STEP_SCORE:
                    score += first;
                    break;
                case Tape.STEP_SCORE_IF:
                    score += second != 0 ? first : 0;
                    break;
                case Tape.STEP_LOW:
                    low = first;
                    break;
                case Tape.STEP_STAY:
                    stays = stays || first != 0;
                    break;
                default:
                    if (portByRule < 0 && (step == Tape.STEP_PORT || first != 0)) {
                        portByRule = value;
                    }
                    break;
            }
        }

        private static int reckon(int a, int sign, int b) {
            switch (sign) {
                case '+':
                    return a + b;
                case '-':
                    return a - b;
                case '*':
                    return a * b;
                case '/':
                    return b == 0 ? 0 : a / b;
                case '<':
                    return a < b ? 1 : 0;
                case '=':
                    return a == b ? 1 : 0;
                default:
                    return a > b ? 1 : 0;
            }
        }

        private void push(int v) {
            if (height < STACK) {
                stack[height] = v;
                height++;
            }
        }

        private int pop() {
            if (height <= 0) {
                return 0;
            }
            height--;
            return stack[height];
        }

        private boolean isOut(int man) {
            return score >= low && !stays && bodies.isMan(man) && !bodies.unscored[man];
        }

        int tellVerdict(int man, int what) {
            switch (what) {
                case 0:
                    return score;
                case 1:
                    return low;
                case 2:
                    return stays ? 1 : 0;
                case 3:
                    return portByRule;
                case 4:
                    return isOut(man) ? 1 : 0;
                default:
                    return ruledBy;
            }
        }

        int tryOut(int rule, int what) {
            int today = places.today;
            int office = ruling(0, today, today);
            int n = 0;
            for (int man = 0; man < bodies.many; man++) {
                if (bodies.isMan(man) && bodies.state[man] < HOME) {
                    readNames(man, today, today);
                    apply(rule);
                    boolean byIt = isOut(man);
                    apply(office);
                    boolean byOffice = isOut(man);
                    if (what == 0 ? byIt : what == 1 ? byIt && !byOffice : byOffice && !byIt) {
                        n++;
                    }
                }
            }
            return n;
        }
    }

    /** Ships, who may go on them, and what happens at sea. */
    private static final class Fleet {
        private static final int IN_PORT = 0, OUT = 1, HELD = 2, BACK = 3;
        private static final int HELD_DAYS = 7;

        private final Places places;
        private final Bodies bodies;
        private final Rules rules;
        int many;
        private final int[] port = new int[MOST_SHIPS];
        private final int[] berthsIn = new int[MOST_SHIPS];
        private final int[] passage = new int[MOST_SHIPS];
        private final int[] state = new int[MOST_SHIPS];
        /** The day when it is home, free, or back; -1 in port. */
        private final int[] due = new int[MOST_SHIPS];
        private final int[] repairTill = new int[MOST_SHIPS];
        private final int[] aboard = new int[MOST_SHIPS];
        private final int[] illAboard = new int[MOST_SHIPS];
        private final int[] broughtHome = new int[MOST_SHIPS];
        // Who passes all that is asked of himself, and his score, by the latest listWilling.
        private final boolean[] willing = new boolean[MOST_BODIES];
        private final int[] scores = new int[MOST_BODIES];
        private final int[] spare = new int[CRAFTS];

        Fleet(Places places, Bodies bodies, Rules rules) {
            this.places = places;
            this.bodies = bodies;
            this.rules = rules;
        }

        boolean isShip(int ship) {
            return ship >= 0 && ship < many;
        }

        int berthsOf(int ship) {
            return isShip(ship) ? berthsIn[ship] : 0;
        }

        int passageOf(int ship) {
            return isShip(ship) ? passage[ship] : 0;
        }

        int add(int atPort, int berthsTold, int passageTold) {
            if (!places.isPort(atPort) || !within(berthsTold, 1, 60) || !within(passageTold, 2, 30)) {
                return BAD;
            }
            if (many >= MOST_SHIPS) {
                return FULL;
            }
            port[many] = atPort;
            berthsIn[many] = berthsTold;
            passage[many] = passageTold;
            due[many] = -1;
            many++;
            return many - 1;
        }

        int mend(int ship, int day) {
            if (!isShip(ship) || !within(day, places.today, LAST_DAY)) {
                return BAD;
            }
            if (state[ship] != IN_PORT) {
                return NOT;
            }
            repairTill[ship] = day;
            return 1;
        }

        private boolean underRepair(int ship) {
            return places.today < repairTill[ship];
        }

        private boolean canLeave(int ship) {
            return state[ship] == IN_PORT && !underRepair(ship);
        }

        int hindrance(int man, int ship) {
            if (!isShip(ship) || !bodies.isMan(man)) {
                return 1;
            }
            int own = ownHindrance(man, port[ship], rules.ruling(port[ship], places.today, places.today));
            if (own != 0) {
                return own;
            }
            if (bodies.isNeeded(man)) {
                return 6;
            }
            if (!canLeave(ship)) {
                return 7;
            }
            return aboard[ship] >= berthsIn[ship] ? 8 : 0;
        }

        // What is asked of the man himself, ahead of what the place and the ship ask.
        private int ownHindrance(int man, int fromPort, int rule) {
            if (bodies.state[man] != AT_PLACE || bodies.at[man] != fromPort) {
                return 1;
            }
            if (bodies.unscored[man]) {
                return 2;
            }
            rules.judge(man, rule, places.today, places.today);
            if (rules.score < rules.low) {
                return 3;
            }
            if (rules.stays) {
                return 4;
            }
            return rules.portByRule >= 0 && rules.portByRule != fromPort ? 5 : 0;
        }

        void listWilling(int ship) {
            int rule = rules.ruling(port[ship], places.today, places.today);
            boolean open = canLeave(ship) && aboard[ship] < berthsIn[ship];
            for (int man = 0; man < bodies.many; man++) {
                willing[man] = open && bodies.isMan(man) && ownHindrance(man, port[ship], rule) == 0;
                scores[man] = rules.score;
            }
            bodies.countSpare(port[ship], spare);
        }

        /** The next one of the listed, or -1. */
        int pickFirst(int ship) {
            int best = -1;
            if (aboard[ship] >= berthsIn[ship]) {
                return best;
            }
            for (int man = 0; man < bodies.many; man++) {
                if (willing[man] && spare[bodies.craft[man]] > 0 && (best < 0 || scores[man] > scores[best])) {
                    best = man;
                }
            }
            return best;
        }

        int takeAboard(int man, int ship) {
            bodies.boardShip(man, ship);
            aboard[ship]++;
            return aboard[ship];
        }

        int loadWilling(int ship) {
            int loaded = 0;
            int man = pickFirst(ship);
            for (int i = 0; i < MOST_BODIES && man >= 0; i++) {
                takeAboard(man, ship);
                willing[man] = false;
                spare[bodies.craft[man]]--;
                loaded++;
                man = pickFirst(ship);
            }
            return loaded;
        }

        int putToSea(int ship, int back) {
            if (!isShip(ship) || !places.isPort(back)) {
                return BAD;
            }
            if (!canLeave(ship) || aboard[ship] == 0) {
                return NOT;
            }
            state[ship] = OUT;
            port[ship] = back;
            due[ship] = places.today + passage[ship];
            return due[ship];
        }

        void strikeOff(int ship, boolean wasIll) {
            if (isShip(ship)) {
                aboard[ship]--;
                illAboard[ship] -= wasIll ? 1 : 0;
            }
        }

        void beginDay() {
            for (int ship = 0; ship < many; ship++) {
                if (state[ship] == OUT && places.today < due[ship]) {
                    spreadSickness(ship);
                } else if (state[ship] != IN_PORT && places.today >= due[ship]) {
                    arrive(ship);
                }
            }
        }

        private void spreadSickness(int ship) {
            int well = aboard[ship] - illAboard[ship];
            int falling = berthsIn[ship] > 0 ? well * well / (4 * berthsIn[ship]) : 0;
            if (falling > 0) {
                bodies.spreadSickness(ship, falling);
                illAboard[ship] += falling;
            }
        }

        private void arrive(int ship) {
            if (state[ship] == BACK) {
                state[ship] = IN_PORT;
                due[ship] = -1;
            } else if (state[ship] == OUT && 5 * illAboard[ship] > aboard[ship]) {
                state[ship] = HELD;
                due[ship] = places.today + HELD_DAYS;
            } else {
                bodies.landAll(ship);
                broughtHome[ship] += aboard[ship];
                aboard[ship] = 0;
                illAboard[ship] = 0;
                state[ship] = BACK;
                due[ship] = places.today + passage[ship];
            }
        }

        int tellOf(int ship, int what) {
            if (!isShip(ship)) {
                return VOID;
            }
            switch (what) {
                case 0:
                    return state[ship];
                case 1:
                    return port[ship];
                case 2:
                    return due[ship];
                case 3:
                    return aboard[ship];
                case 4:
                    return illAboard[ship];
                case 5:
                    return underRepair(ship) ? repairTill[ship] : -1;
                case 6:
                    return broughtHome[ship];
                default:
                    return VOID;
            }
        }

        boolean someBerthsShort() {
            for (int ship = 0; ship < many; ship++) {
                if (aboard[ship] > berthsIn[ship]) {
                    return true;
                }
            }
            return false;
        }
    }

    /** Which men relieve which guarded places, for the least sum of scores. */
    private static final class Relief {
        private static final int MOST_POSTS = 5, MOST_READY = 8;
        private static final long MOST_TOLD = 1999999999L;

        private final Places places;
        private final Bodies bodies;
        private final Rules rules;
        private int posts;
        private int readyMany;
        private final int[] postPlace = new int[MOST_POSTS];
        private final int[] postWhat = new int[MOST_POSTS];
        private final int[] readyMan = new int[MOST_READY];
        // Bits of the men who fit a post.
        private final int[] fits = new int[MOST_POSTS];
        private final int[] scores = new int[MOST_READY];
        private final int[] trial = new int[MOST_READY];
        private final int[] best = new int[MOST_READY];
        private boolean found;
        private long bestSum;
        private int answered;
        private final int[] answer = new int[MOST_READY];

        Relief(Places places, Bodies bodies, Rules rules) {
            this.places = places;
            this.bodies = bodies;
            this.rules = rules;
        }

        private static int menOf(int what) {
            return what / 10 % 10;
        }

        int tellPost(int place, int what) {
            if (!places.isPlace(place) || !within(what, 0, 999) || !within(menOf(what), 1, 3)) {
                return BAD;
            }
            if (posts >= MOST_POSTS) {
                return FULL;
            }
            postPlace[posts] = place;
            postWhat[posts] = what;
            posts++;
            return posts;
        }

        int tellMan(int man) {
            if (!bodies.isMan(man)) {
                return BAD;
            }
            for (int i = 0; i < readyMany; i++) {
                if (readyMan[i] == man) {
                    return BAD;
                }
            }
            if (bodies.state[man] != AT_PLACE) {
                return NOT;
            }
            if (readyMany >= MOST_READY) {
                return FULL;
            }
            readyMan[readyMany] = man;
            readyMany++;
            return readyMany;
        }

        int plan() {
            int told = posts;
            int men = readyMany;
            found = false;
            if (told > 0) {
                weighMen();
                Arrays.fill(trial, -1);
                choose(0, menOf(postWhat[0]), 0, 0, 0L);
            }
            posts = 0;
            readyMany = 0;
            if (!found) {
                return VOID;
            }
            answered = men;
            System.arraycopy(best, 0, answer, 0, MOST_READY);
            return (int) Math.max(-MOST_TOLD, Math.min(MOST_TOLD, bestSum));
        }

        private void weighMen() {
            int today = places.today;
            int rule = rules.ruling(0, today, today);
            for (int post = 0; post < posts; post++) {
                fits[post] = 0;
            }
            for (int i = 0; i < readyMany; i++) {
                int man = readyMan[i];
                if (bodies.state[man] == AT_PLACE) {
                    rules.judge(man, rule, today, today);
                    scores[i] = rules.score;
                    noteFits(i, man);
                }
            }
        }

        private void noteFits(int i, int man) {
            for (int post = 0; post < posts; post++) {
                int what = postWhat[post];
                boolean near = places.wayBetween(bodies.at[man], postPlace[post]) <= what % 10;
                if (near && bodies.craft[man] == what / 100) {
                    fits[post] |= 1 << i;
                }
            }
        }

        // Goes through the ways in the order in which the first of like ones is to be told.
        private void choose(int post, int still, int from, int used, long sum) {
            if (post >= posts) {
                if (!found || sum < bestSum) {
                    found = true;
                    bestSum = sum;
                    System.arraycopy(trial, 0, best, 0, MOST_READY);
                }
                return;
            }
            if (still == 0) {
                int more = post + 1 < posts ? menOf(postWhat[post + 1]) : 0;
                choose(post + 1, more, 0, used, sum);
                return;
            }
            int free = fits[post] & ~used;
            for (int i = from; i < readyMany; i++) {
                if ((free >> i & 1) != 0) {
                    trial[i] = post;
                    choose(post, still - 1, i + 1, used | 1 << i, sum + scores[i]);
                    trial[i] = -1;
                }
            }
        }

        int postOf(int i) {
            if (i < 0 || i >= answered) {
                return BAD;
            }
            return answer[i] < 0 ? NOT : answer[i];
        }
    }

    /** Voyages of told ships from told ports, so that most men are home in time. */
    private static final class Voyages {
        private static final int MOST_TOLD = 3, MOST_EACH = 3, MOST_CHOICES = 9;

        private final Places places;
        private final Fleet fleet;
        private int ships;
        private int ports;
        private final int[] shipTold = new int[MOST_TOLD];
        private final int[] portTold = new int[MOST_TOLD];
        private final int[] waiting = new int[MOST_TOLD];
        private final int[] voyagesLeft = new int[MOST_TOLD];
        private final int[] freeOn = new int[MOST_TOLD];
        private final int[] trial = new int[MOST_CHOICES];
        private final int[] best = new int[MOST_CHOICES];
        private int bestMany;
        private int bestHome;

        Voyages(Places places, Fleet fleet) {
            this.places = places;
            this.fleet = fleet;
        }

        int tell(int sort, int v) {
            if (sort == 0) {
                return fleet.isShip(v) ? tellShip(v) : BAD;
            }
            if (sort != 1 || v < 0 || !places.isPort(v / 1000)) {
                return BAD;
            }
            return tellPort(v / 1000, v % 1000);
        }

        private static boolean isTold(int[] told, int many, int v) {
            for (int i = 0; i < many && i < told.length; i++) {
                if (told[i] == v) {
                    return true;
                }
            }
            return false;
        }

        private int tellShip(int ship) {
            if (isTold(shipTold, ships, ship)) {
                return BAD;
            }
            if (ships >= MOST_TOLD) {
                return FULL;
            }
            shipTold[ships] = ship;
            ships++;
            return ships;
        }

        private int tellPort(int port, int men) {
            if (isTold(portTold, ports, port)) {
                return BAD;
            }
            if (ports >= MOST_TOLD) {
                return FULL;
            }
            portTold[ports] = port;
            waiting[ports] = men;
            ports++;
            return ports;
        }

        int plan(int daysTold) {
            if (!within(daysTold, 1, 200)) {
                return BAD;
            }
            if (ships == 0 || ports == 0) {
                return NOT;
            }
            int berths = 0;
            for (int s = 0; s < ships; s++) {
                int passage = Math.max(1, fleet.passageOf(shipTold[s]));
                // The v-th voyage is home after 2 * v - 1 passages.
                voyagesLeft[s] = Math.min(MOST_EACH, (daysTold / passage + 1) / 2);
                freeOn[s] = 0;
                berths += voyagesLeft[s] * fleet.berthsOf(shipTold[s]);
            }
            int men = 0;
            for (int p = 0; p < ports; p++) {
                men += waiting[p];
            }
            bestHome = -1;
            bestMany = 0;
            choose(0, 0, men, berths);
            ships = 0;
            ports = 0;
            return Math.max(0, bestHome);
        }

        private int firstFree() {
            int first = -1;
            for (int s = 0; s < ships; s++) {
                if (voyagesLeft[s] > 0 && (first < 0 || freeOn[s] < freeOn[first])) {
                    first = s;
                }
            }
            return first;
        }

        // To rest while men wait never brings more home than to go, and stands behind all ports:
        // so no first best row of choices has a rest in it, and none is tried.
        private void choose(int made, int home, int men, int berths) {
            if (home + Math.min(men, berths) <= bestHome) {
                return;
            }
            int s = firstFree();
            if (men == 0 || s < 0 || made >= MOST_CHOICES) {
                bestHome = home;
                bestMany = made;
                System.arraycopy(trial, 0, best, 0, made);
                return;
            }
            int room = fleet.berthsOf(shipTold[s]);
            int turn = 2 * fleet.passageOf(shipTold[s]);
            voyagesLeft[s]--;
            freeOn[s] += turn;
            for (int p = 0; p < ports; p++) {
                int go = Math.min(waiting[p], room);
                if (go > 0) {
                    trial[made] = p;
                    waiting[p] -= go;
                    choose(made + 1, home + go, men - go, berths - room);
                    waiting[p] += go;
                }
            }
            voyagesLeft[s]++;
            freeOn[s] -= turn;
        }

        int choice(int i) {
            return i >= 0 && i < bestMany ? best[i] : BAD;
        }
    }

    /** The order of shutting camps that costs least bread. */
    private static final class Shutting {
        private static final int MOST_CAMPS = 8;

        private final Places places;
        private int camps;
        private final int[] placeTold = new int[MOST_CAMPS];
        private final int[] daysTold = new int[MOST_CAMPS];
        private final int[] breadTold = new int[MOST_CAMPS];
        private final int[] ahead = new int[MOST_CAMPS];
        /** By the bits of camps that are shut: the least bread of all others. */
        private final int[] least = new int[1 << MOST_CAMPS];
        private int ordered;
        private final int[] order = new int[MOST_CAMPS];

        Shutting(Places places) {
            this.places = places;
        }

        int tell(int place, int what, int bits) {
            if (!places.isPlace(place) || places.isPort(place) || !within(bits, 0, 255)) {
                return BAD;
            }
            if (!within(what, 1001, 20999) || what % 1000 == 0 || (bits >> camps & 1) != 0) {
                return BAD;
            }
            for (int i = 0; i < camps; i++) {
                if (placeTold[i] == place) {
                    return BAD;
                }
            }
            if (camps >= MOST_CAMPS) {
                return FULL;
            }
            placeTold[camps] = place;
            daysTold[camps] = what / 1000;
            breadTold[camps] = what % 1000;
            ahead[camps] = bits;
            camps++;
            return camps;
        }

        int plan() {
            if (camps == 0) {
                return BAD;
            }
            int all = (1 << camps) - 1;
            least[all] = 0;
            for (int shut = all - 1; shut >= 0; shut--) {
                least[shut] = NEVER * 100;
                int time = timeOf(shut);
                for (int i = 0; i < camps; i++) {
                    if (mayFollow(i, shut, all)) {
                        least[shut] = Math.min(least[shut], breadWith(i, shut, time));
                    }
                }
            }
            int bread = least[0];
            if (bread < NEVER * 100) {
                noteOrder(all);
            }
            camps = 0;
            return bread < NEVER * 100 ? bread : NOT;
        }

        private int timeOf(int shut) {
            int time = 0;
            for (int i = 0; i < camps; i++) {
                time += (shut >> i & 1) * daysTold[i];
            }
            return time;
        }

        private boolean mayFollow(int i, int shut, int all) {
            return (shut >> i & 1) == 0 && (ahead[i] & all & ~shut) == 0;
        }

        private int breadWith(int i, int shut, int time) {
            return breadTold[i] * (time + daysTold[i]) + least[shut | 1 << i];
        }

        private void noteOrder(int all) {
            int shut = 0;
            ordered = camps;
            for (int nth = 0; nth < camps; nth++) {
                int time = timeOf(shut);
                int i = 0;
                while (i < camps - 1 && !(mayFollow(i, shut, all) && breadWith(i, shut, time) == least[shut])) {
                    i++;
                }
                order[nth] = placeTold[i];
                shut |= 1 << i;
            }
        }

        int placeAt(int i) {
            return i >= 0 && i < ordered ? order[i] : BAD;
        }
    }

    /** The low line of scores, week by week, that the berths of all rows can bear. */
    private static final class Line {
        private static final int SCORES = 100, ROWS = 4, WEEKS = 8;

        private final int[] menOf = new int[SCORES];
        private final int[] berthsIn = new int[ROWS * WEEKS];
        private final int[] waiting = new int[ROWS];

        int tellMen(int score, int n) {
            if (!within(score, 0, SCORES - 1) || !within(n, 0, 199)) {
                return BAD;
            }
            int had = menOf[score];
            menOf[score] = n;
            return had;
        }

        int tellBerths(int row, int week, int n) {
            if (!within(row, 0, ROWS - 1) || !within(week, 0, WEEKS - 1) || !within(n, 0, 9999)) {
                return BAD;
            }
            int were = berthsIn[row * WEEKS + week];
            berthsIn[row * WEEKS + week] = n;
            return were;
        }

        int lowOf(int week, int rows, int weeksTogether) {
            Arrays.fill(waiting, 0);
            int low = SCORES;
            for (int w = 0; w <= week && w < WEEKS; w++) {
                int room = roomIn(w, rows, weeksTogether);
                int come = 0;
                while (low > 0 && come + menOf[low - 1] <= room) {
                    low--;
                    come += menOf[low];
                }
                letGo(w, rows, come);
            }
            return low;
        }

        // How many more can come in the row that bears least; below 0 nobody, not even none.
        private int roomIn(int week, int rows, int weeksTogether) {
            int room = NEVER;
            for (int row = 0; row < rows && row < ROWS; row++) {
                int berths = 0;
                for (int w = week; w < week + weeksTogether; w++) {
                    berths += berthsIn[row * WEEKS + Math.min(w, WEEKS - 1)];
                }
                room = Math.min(room, berths - waiting[row]);
            }
            return room;
        }

        private void letGo(int week, int rows, int come) {
            for (int row = 0; row < rows && row < ROWS; row++) {
                waiting[row] = Math.max(0, waiting[row] + come - berthsIn[row * WEEKS + week]);
            }
        }
    }

    /** Shelves that hold nothing, a body, or a row. */
    private static final class Shelves {
        static final int NOTHING = -1, BYTES = 0, SHORTS = 1, INTS = 2, BOOLEANS = 4, BODY = 5;
        private static final int SHELVES = 8, LONGEST = 90;

        /** NOTHING, the sort of its row, or BODY. */
        final int[] holds = new int[SHELVES];
        final int[] bodyOn = new int[SHELVES];
        private final int[] length = new int[SHELVES];
        private final long[] elements = new long[SHELVES * LONGEST];

        Shelves() {
            Arrays.fill(holds, NOTHING);
        }

        boolean isShelf(int shelf) {
            return shelf >= 0 && shelf < SHELVES;
        }

        int holdBody(int shelf, int body) {
            holds[shelf] = body < 0 ? NOTHING : BODY;
            bodyOn[shelf] = body;
            length[shelf] = 0;
            return 1;
        }

        int holdRow(int shelf, int sort, int n) {
            if (!isShelf(shelf) || !within(sort, BYTES, BOOLEANS) || n > LONGEST) {
                return BAD;
            }
            if (n < 0) {
                return SIZE_BELOW_0;
            }
            holds[shelf] = sort;
            length[shelf] = n;
            for (int i = 0; i < n; i++) {
                elements[shelf * LONGEST + i] = 0L;
            }
            return 1;
        }

        int lengthOf(int shelf) {
            return isShelf(shelf) ? length[shelf] : 0;
        }

        private boolean holdsRow(int shelf) {
            return within(holds[shelf], BYTES, BOOLEANS);
        }

        int refusal(int shelf, int i) {
            if (!isShelf(shelf)) {
                return BAD;
            }
            if (holds[shelf] == NOTHING) {
                return NOTHING_THERE;
            }
            if (!holdsRow(shelf)) {
                return OTHER_KIND;
            }
            return i < 0 || i >= length[shelf] ? NO_SUCH_SPOT : 0;
        }

        long read(int shelf, int i) {
            return refusal(shelf, i) == 0 ? elements[shelf * LONGEST + i] : 0L;
        }

        void store(int shelf, int i, long v) {
            if (refusal(shelf, i) == 0) {
                elements[shelf * LONGEST + i] = cut(holds[shelf], v);
            }
        }

        private static long cut(int sort, long v) {
            switch (sort) {
                case BYTES:
                    return (byte) v;
                case SHORTS:
                    return (short) v;
                case INTS:
                    return (int) v;
                case BOOLEANS:
                    return v != 0 ? 1L : 0L;
                default:
                    return v;
            }
        }

        int copy(int shelf, int i, int other, int j, int n) {
            if (!isShelf(shelf) || !isShelf(other)) {
                return BAD;
            }
            if (holds[shelf] == NOTHING || holds[other] == NOTHING) {
                return NOTHING_THERE;
            }
            if (!holdsRow(shelf) || holds[shelf] != holds[other]) {
                return OTHER_KIND;
            }
            if (n < 0 || i < 0 || j < 0 || i > length[shelf] - n || j > length[other] - n) {
                return NO_SUCH_SPOT;
            }
            System.arraycopy(elements, shelf * LONGEST + i, elements, other * LONGEST + j, n);
            return n;
        }
    }
}
