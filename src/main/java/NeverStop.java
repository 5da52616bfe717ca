/** Ships that never stop; ../shared/DOC.md tells the promises, one for each public method. */
public final class NeverStop {
    public static final int NONE = -1, BAD = -2, STATE = -3, FULL = -4;
    public static final long NO = -4611686018427387904L;

    private static final int NO_SUCH = -5, NOT_SO = -7;
    private static final int NOTHING = -11, OUTSIDE = -12, UNLIKE = -13, BELOW = -14;
    private static final int WORLDS = 4, SHIPS = 9, TRIPS = 10, TEXTS = 6, SHEETS = 4, CELLS = 40;
    private static final int TAPE = 160, LAST_DAY = 20000, SPAN = 200, MOST_PEOPLE = 99, MOST_ABOARD = 999;
    private static final int SHIP = 0, SLOW = 1, GREAT = 2, TURNER = 3, SHY = 4, BREATHER = 5, A_WORLD = 6;
    private static final int CATCH = 0, DROP = 1, CHANGE = 2;

    private final World[] worlds;
    private int worldCount;
    private final Fleet fleet;
    private final Trips trips;
    private final Law[] laws;
    private int lawCount;
    private int law;
    private final Reader reader;
    private final Ways ways;
    private final Sheet[] sheets;
    private final Image kept;

    public NeverStop() {
        worlds = new World[WORLDS];
        worldCount = 0;
        fleet = new Fleet();
        trips = new Trips();
        laws = new Law[TEXTS];
        laws[0] = new Law(Law.FIRST, Law.FIRST_DROP, Law.FIRST_CHANGE);
        lawCount = 1;
        law = 0;
        reader = new Reader();
        ways = new Ways();
        sheets = new Sheet[SHEETS];
        for (int s = 0; s < SHEETS; s++) {
            sheets[s] = new Sheet();
        }
        kept = new Image();
    }

    // ---- worlds, ships

    public int world(int n, int days) {
        if (!isBoats(n) || !isReady(days)) {
            return BAD;
        }
        if (worldCount >= WORLDS) {
            return FULL;
        }
        worlds[worldCount] = new World(n, days);
        worldCount++;
        return worldCount - 1;
    }

    public int port(int w, int what, int v) {
        World at = worldAt(w);
        if (at == null) {
            return NO_SUCH;
        }
        if (what == 0 && isBoats(v)) {
            int was = at.boats;
            at.boats = v;
            return was;
        }
        if (what == 1 && isReady(v)) {
            int was = at.ready;
            at.ready = v;
            return was;
        }
        return NOT_SO;
    }

    public int ship(int kind, int round, int more, int has) {
        if (kind < SHIP || kind > BREATHER || round < 2 || round > 60) {
            return BAD;
        }
        if (more < 0 || more > 29 || has < 0 || has > 99) {
            return BAD;
        }
        if (fleet.size >= SHIPS) {
            return FULL;
        }
        fleet.ships[fleet.size] = new Ship(kind, round, more, has);
        fleet.size++;
        return fleet.size - 1;
    }

    public int loop(int s, int w, int day, int quick) {
        Ship one = fleet.shipAt(s);
        if (one == null) {
            return NO_SUCH;
        }
        if (worldAt(w) == null) {
            return NOT_SO;
        }
        if (day < -1 || day >= one.round || quick < 0 || quick > 9) {
            return BAD;
        }
        int was = one.phase[w];
        one.phase[w] = day;
        one.speed[w] = quick;
        return was;
    }

    public int turn(int s, int d) {
        Ship one = fleet.shipAt(s);
        if (one == null) {
            return NO_SUCH;
        }
        if (d < 0 || d >= one.round) {
            return NOT_SO;
        }
        int was = one.turned;
        one.turned = d;
        return was;
    }

    public int shipTold(int s, int what) {
        Ship one = fleet.shipAt(s);
        if (one == null) {
            return NO_SUCH;
        }
        if (what < 0 || what > 12) {
            return NOT_SO;
        }
        if (what >= 9) {
            return one.quickAt(what - 9);
        }
        if (what >= 5) {
            return one.phase[what - 5];
        }
        switch (what) {
            case 0: return one.kind;
            case 1: return one.round;
            case 2: return one.more;
            case 3: return one.room;
            default: return one.turned;
        }
    }

    public int count(int what) {
        switch (what) {
            case 0: return worldCount;
            case 1: return fleet.size;
            case 2: return trips.size;
            case 3: return lawCount;
            case 4: return law;
            case 5: return reader.size;
            default: return BAD;
        }
    }

    // ---- passings

    public int passes(int s, int d) {
        Ship one = fleet.shipAt(s);
        if (one == null) {
            return NO_SUCH;
        }
        return isDay(d) ? one.worldsOn(d) : NOT_SO;
    }

    public int here(int w, int d) {
        if (worldAt(w) == null) {
            return NO_SUCH;
        }
        return isDay(d) ? fleet.shipsOn(w, d) : NOT_SO;
    }

    public int often(int s, int w, int d, int n) {
        Ship one = fleet.shipAt(s);
        if (one == null || worldAt(w) == null) {
            return NO_SUCH;
        }
        if (!isDay(d) || n < 0 || n > 4000) {
            return NOT_SO;
        }
        return one.timesAhead(w, d + n) - one.timesAhead(w, d);
    }

    public int next(int s, int w, int d) {
        Ship one = fleet.shipAt(s);
        if (one == null || worldAt(w) == null) {
            return NO_SUCH;
        }
        return isDay(d) ? one.firstFrom(w, d) : NOT_SO;
    }

    public int meets(int a, int b, int w, int d) {
        Ship one = fleet.shipAt(a);
        Ship other = fleet.shipAt(b);
        if (one == null || other == null || a == b || worldAt(w) == null) {
            return NO_SUCH;
        }
        return isDay(d) ? one.firstWith(other, w, d) : NOT_SO;
    }

    public int seldom(int w, int what) {
        if (worldAt(w) == null) {
            return NO_SUCH;
        }
        return what == 0 || what == 1 ? fleet.rarestPair(w, what) : NOT_SO;
    }

    public int miss(int s, int w, int d) {
        Ship one = fleet.shipAt(s);
        if (one == null || worldAt(w) == null) {
            return NO_SUCH;
        }
        if (!isDay(d)) {
            return NOT_SO;
        }
        return one.firstFrom(w, d) == d ? one.firstFrom(w, d + 1) - d : STATE;
    }

    public int waits(int w, int d, int n) {
        if (worldAt(w) == null) {
            return NO_SUCH;
        }
        return isDay(d) && n >= 1 && n <= SPAN ? fleet.longestWait(w, d, n) : NOT_SO;
    }

    public int choose(int s, int w, int n, int what) {
        if (fleet.shipAt(s) == null || worldAt(w) == null) {
            return NO_SUCH;
        }
        if (n < 1 || n > SPAN || (what != 0 && what != 1)) {
            return NOT_SO;
        }
        return fleet.bestTurn(s, w, n, what);
    }

    // ---- the law

    public int feed(long w, int n) {
        if (n < 1 || n > 8) {
            return BAD;
        }
        if (reader.size + n > TAPE) {
            return FULL;
        }
        for (int i = n - 1; i >= 0; i--) {
            reader.add((int) ((w >>> (8 * i)) & 255L));
        }
        return reader.size;
    }

    public int text() {
        if (lawCount >= TEXTS) {
            return FULL;
        }
        Law told = reader.readLaw();
        reader.size = 0;
        if (told == null) {
            return -100 - reader.fault;
        }
        laws[lawCount] = told;
        lawCount++;
        return lawCount - 1;
    }

    public int force(int t) {
        if (t < 0 || t >= lawCount) {
            return BAD;
        }
        int was = law;
        law = t;
        return was;
    }

    public int fuel(int part, int s, int w, int d, int n) {
        if (part < CATCH || part > CHANGE) {
            return BAD;
        }
        if (fleet.shipAt(s) == null || worldAt(w) == null) {
            return NO_SUCH;
        }
        if (!isDay(d) || !isMany(n)) {
            return NOT_SO;
        }
        ways.take(fleet, lawNow(), n);
        return ways.price(part, s, w, d);
    }

    // ---- from world to world

    public int soon(int a, int b, int d, int n) {
        if (!isStart(a, d, n) || worldAt(b) == null) {
            return NO_SUCH;
        }
        ways.take(fleet, lawNow(), n);
        ways.findDays(a, b, d, SHIPS);
        return ways.found[SHIPS];
    }

    public int reach(int a, int d, int n, int days) {
        if (!isStart(a, d, n)) {
            return NO_SUCH;
        }
        if (!isSpan(days)) {
            return NOT_SO;
        }
        ways.take(fleet, lawNow(), n);
        return ways.worldsWithin(a, d, days);
    }

    public int least(int a, int b, int d, int n, int days) {
        if (!isStart(a, d, n) || worldAt(b) == null) {
            return NO_SUCH;
        }
        if (!isSpan(days)) {
            return NOT_SO;
        }
        ways.take(fleet, lawNow(), n);
        return ways.cheapest(a, b, d, days);
    }

    public int edge(int a, int b, int d, int n, int what) {
        if (!isStart(a, d, n) || worldAt(b) == null || a == b) {
            return NO_SUCH;
        }
        if (what < -1) {
            return NOT_SO;
        }
        ways.take(fleet, lawNow(), n);
        return ways.onEdge(a, b, d, what);
    }

    public int bears(int a, int b, int d, int n) {
        if (!isStart(a, d, n) || worldAt(b) == null) {
            return NO_SUCH;
        }
        ways.take(fleet, lawNow(), n);
        ways.findDays(a, b, d, 0);
        int last = ways.found[SHIPS];
        for (int s = 0; s < fleet.size; s++) {
            if (last < 0 || ways.found[s] < 0) {
                return NONE;
            }
            last = Math.max(last, ways.found[s]);
        }
        return last;
    }

    public int needed(int a, int b, int d, int n) {
        if (!isStart(a, d, n) || worldAt(b) == null) {
            return NO_SUCH;
        }
        ways.take(fleet, lawNow(), n);
        ways.findDays(a, b, d, 0);
        int bits = 0;
        for (int s = 0; s < fleet.size; s++) {
            if (ways.found[s] < 0) {
                bits |= 1 << s;
            }
        }
        return bits;
    }

    public int judge(int a, int b, int d, int n, int s) {
        int refused = refusedWay(a, b, d, n, s);
        return refused != 0 ? refused : walked(a, b, d, n, s);
    }

    public int toldFuel(int a, int b, int d, int n, int s) {
        int refused = refusedWay(a, b, d, n, s);
        if (refused != 0) {
            return refused;
        }
        return walked(a, b, d, n, s) == NONE ? ways.spent : STATE;
    }

    // ---- boats, trips

    public int fewest(int w, int s) {
        World at = worldAt(w);
        if (at == null) {
            return NO_SUCH;
        }
        int refused = refusedCatches(s);
        if (refused != 0) {
            return refused;
        }
        Sheet catches = sheets[s];
        int need = 0;
        for (int i = 0; i < catches.size / 2; i++) {
            if (catches.get(2 * i) == w) {
                need = Math.max(need, catches.outAhead(i, at.ready) + 1);
            }
        }
        return need;
    }

    public int lacks(int s) {
        int refused = refusedCatches(s);
        if (refused != 0) {
            return refused;
        }
        Sheet catches = sheets[s];
        int first = NONE;
        for (int i = 0; i < catches.size / 2; i++) {
            World at = worldAt(catches.get(2 * i));
            boolean none = at != null && catches.outAhead(i, at.ready) >= at.boats;
            if (none && (first < 0 || catches.isAhead(i, first))) {
                first = i;
            }
        }
        return first;
    }

    public int trip(int a, int b, int d, int n) {
        if (!isStart(a, d, n) || worldAt(b) == null || a == b) {
            return BAD;
        }
        if (trips.size >= TRIPS) {
            return FULL;
        }
        return trips.add(a, b, d, n);
    }

    public int ride(int i, int what) {
        if (i < 0 || i >= trips.size) {
            return NO_SUCH;
        }
        if (what < 0 || what > 2) {
            return NOT_SO;
        }
        trips.settle(fleet);
        Trip one = trips.list[i];
        if (one == null) {
            return NONE;
        }
        return what == 0 ? one.ship : what == 1 ? one.caught : one.off;
    }

    public int aboard(int s, int d, int set) {
        if (fleet.shipAt(s) == null) {
            return NO_SUCH;
        }
        if (!isDay(d) || !trips.isSet(set)) {
            return NOT_SO;
        }
        trips.settle(fleet);
        return trips.peopleOn(s, d, set);
    }

    public int book(int set) {
        if (!trips.isSet(set)) {
            return BAD;
        }
        trips.settle(fleet);
        return trips.firstWrong(set, fleet);
    }

    public int most(int what) {
        if (what != 0 && what != 1) {
            return BAD;
        }
        trips.settle(fleet);
        int set = trips.largest(fleet);
        return what == 0 ? set : trips.peopleOf(set);
    }

    public int together(int a, int b, int d, int n, int what) {
        if (!isStart(a, d, n) || worldAt(b) == null || a == b || (what != 0 && what != 1)) {
            return NO_SUCH;
        }
        int best = NONE;
        int bestDay = NONE;
        for (int s = 0; s < fleet.size; s++) {
            Ship one = fleet.shipAt(s);
            if (one != null && one.room >= n && one.goesBy(a) && one.goesBy(b)) {
                int day = one.firstFrom(a, d);
                if (best < 0 || day < bestDay) {
                    best = s;
                    bestDay = day;
                }
            }
        }
        return what == 0 ? bestDay : best;
    }

    public int bread(int s, int n) {
        Ship one = fleet.shipAt(s);
        if (one == null) {
            return NO_SUCH;
        }
        if (n < 0 || n > MOST_ABOARD) {
            return NOT_SO;
        }
        int lost = n - one.room / 2;
        return lost > 0 ? 10 * one.room / lost + 1 : NONE;
    }

    public int grow(int s, int days) {
        Ship one = fleet.shipAt(s);
        if (one == null) {
            return NO_SUCH;
        }
        if (days < 1 || days > 9999) {
            return NOT_SO;
        }
        return Math.min(MOST_ABOARD, one.room / 2 + 10 * one.room / days);
    }

    public int image() {
        kept.is = true;
        kept.ships = fleet.size;
        kept.worlds = worldCount;
        kept.trips = trips.size;
        kept.law = law;
        for (int s = 0; s < fleet.size; s++) {
            Ship one = fleet.shipAt(s);
            kept.turned[s] = one == null ? 0 : one.turned;
        }
        for (int w = 0; w < worldCount; w++) {
            World at = worldAt(w);
            kept.boats[w] = at == null ? 0 : at.boats;
            kept.ready[w] = at == null ? 1 : at.ready;
        }
        return fleet.size;
    }

    public int back() {
        if (!kept.is) {
            return STATE;
        }
        trips.size = kept.trips;
        law = kept.law;
        for (int s = 0; s < kept.ships; s++) {
            Ship one = fleet.shipAt(s);
            if (one != null) {
                one.turned = kept.turned[s];
            }
        }
        for (int w = 0; w < kept.worlds; w++) {
            World at = worldAt(w);
            if (at != null) {
                at.boats = kept.boats[w];
                at.ready = kept.ready[w];
            }
        }
        return fleet.size;
    }

    // ---- the host

    public int sheet(int s, int sort, int n) {
        if (!isSheet(s) || sort < Sheet.MISSING || sort > Sheet.INTS) {
            return BAD;
        }
        if (sort == Sheet.MISSING) {
            sheets[s].sort = Sheet.MISSING;
            return 1;
        }
        if (n > CELLS) {
            return BAD;
        }
        if (n < 0) {
            return BELOW;
        }
        sheets[s].begin(sort, n);
        return 1;
    }

    public int cell(int s, int i, int v) {
        int refused = refusedSheet(s);
        if (refused != 0) {
            return refused;
        }
        if (i < 0 || i >= sheets[s].size) {
            return OUTSIDE;
        }
        sheets[s].put(i, v);
        return 1;
    }

    public int copy(int s, int i, int other, int j, int n) {
        if (!isSheet(s) || !isSheet(other)) {
            return BAD;
        }
        Sheet from = sheets[s];
        Sheet to = sheets[other];
        if (from.sort == Sheet.MISSING || to.sort == Sheet.MISSING) {
            return NOTHING;
        }
        if (from.sort != to.sort) {
            return UNLIKE;
        }
        if (!from.holds(i, n) || !to.holds(j, n)) {
            return OUTSIDE;
        }
        System.arraycopy(from.row, i, to.row, j, n);
        return n;
    }

    public int tripsBy(int s, int sort, int at, int n) {
        if (!isSheet(s) || sort < Sheet.BYTES || sort > Sheet.INTS || n < 0 || n > TRIPS) {
            return BAD;
        }
        Sheet by = sheets[s];
        if (by.sort == Sheet.MISSING) {
            return NOTHING;
        }
        if (by.sort != sort) {
            return UNLIKE;
        }
        int came = 0;
        for (int k = 0; k < n; k++) {
            int i = at + 4 * k;
            // the first test also keeps the sum from wrapping round
            if (at > CELLS || !by.holds(i, 4)) {
                return OUTSIDE;
            }
            if (trip(by.get(i), by.get(i + 1), by.get(i + 2), by.get(i + 3)) >= 0) {
                came++;
            }
        }
        return came;
    }

    public int taken(int i, int kind) {
        if (kind < SHIP || kind > A_WORLD) {
            return BAD;
        }
        if (i < 0 || i >= WORLDS + SHIPS) {
            return OUTSIDE;
        }
        if (i < WORLDS) {
            World at = worldAt(i);
            if (at == null) {
                return NOTHING;
            }
            return kind == A_WORLD ? at.boats : UNLIKE;
        }
        Ship one = fleet.shipAt(i - WORLDS);
        if (one == null) {
            return NOTHING;
        }
        return one.isOf(kind) ? i - WORLDS : UNLIKE;
    }

    // ---- what numbers must be

    private static boolean isBoats(int n) {
        return n >= 0 && n <= 9;
    }

    private static boolean isReady(int days) {
        return days >= 1 && days <= 99;
    }

    private static boolean isDay(int d) {
        return d >= 0 && d <= LAST_DAY;
    }

    private static boolean isMany(int n) {
        return n >= 1 && n <= MOST_PEOPLE;
    }

    private static boolean isSpan(int days) {
        return days >= 0 && days <= SPAN;
    }

    private static boolean isSheet(int s) {
        return s >= 0 && s < SHEETS;
    }

    private boolean isStart(int a, int d, int n) {
        return worldAt(a) != null && isDay(d) && isMany(n);
    }

    private Law lawNow() {
        return law >= 0 && law < lawCount && law < TEXTS ? laws[law] : null;
    }

    private World worldAt(int w) {
        return w >= 0 && w < worldCount && w < WORLDS ? worlds[w] : null;
    }

    // ---- refusals that several calls share: 0, if there is none

    private int refusedSheet(int s) {
        if (!isSheet(s)) {
            return BAD;
        }
        return sheets[s].sort == Sheet.MISSING ? NOTHING : 0;
    }

    private int refusedWay(int a, int b, int d, int n, int s) {
        if (!isStart(a, d, n) || worldAt(b) == null) {
            return NO_SUCH;
        }
        int refused = refusedSheet(s);
        if (refused != 0) {
            return refused;
        }
        return sheets[s].size % 3 != 0 ? BAD : 0;
    }

    private int refusedCatches(int s) {
        int refused = refusedSheet(s);
        if (refused != 0) {
            return refused;
        }
        Sheet catches = sheets[s];
        if (catches.size % 2 != 0) {
            return BAD;
        }
        for (int i = 0; i < catches.size; i += 2) {
            if (worldAt(catches.get(i)) == null || !isDay(catches.get(i + 1))) {
                return BAD;
            }
        }
        return 0;
    }

    /** What judge() answers of a TOLD WAY that is not refused; ways.spent is its FUEL then. */
    private int walked(int a, int b, int d, int n, int s) {
        Sheet acts = sheets[s];
        int steps = acts.size / 3;
        ways.take(fleet, lawNow(), n);
        ways.setOut(a);
        int from = d;
        for (int i = 0; i < steps; i++) {
            int day = acts.get(3 * i);
            int what = acts.get(3 * i + 1);
            int whom = acts.get(3 * i + 2);
            if (!isDay(day) || day < from) {
                return i;
            }
            if (what == DROP ? worldAt(whom) == null : fleet.shipAt(whom) == null) {
                return i;
            }
            if (!ways.act(day, what, whom)) {
                return i;
            }
            from = day + 1;
        }
        return ways.spot == b ? NONE : steps;
    }

    /** A world's port. */
    static final class World {
        int boats;
        int ready;

        World(int boats, int ready) {
            this.boats = boats;
            this.ready = ready;
        }
    }

    /** What image() kept. */
    static final class Image {
        boolean is;
        int ships;
        int worlds;
        int trips;
        int law;
        final int[] turned;
        final int[] boats;
        final int[] ready;

        Image() {
            turned = new int[SHIPS];
            boats = new int[WORLDS];
            ready = new int[WORLDS];
        }
    }

    /** A ship. Of each ROUND (day 0 on, counted in blocks) it passes a world on just one day, or never. */
    static final class Ship {
        /** Of each KIND the one above it. */
        private static final int[] ABOVE = {NONE, SHIP, SHIP, SHIP, GREAT, TURNER};

        final int kind;
        final int round;
        final int more;
        final int room;
        final int[] phase;
        final int[] speed;
        int turned;
        private final int later;
        private final int shunned;

        Ship(int kind, int round, int more, int has) {
            this.kind = kind;
            this.round = Math.max(2, round);
            this.more = more;
            room = isOf(GREAT) ? 2 * has : isOf(BREATHER) ? Math.max(0, has - 1) : has;
            later = isOf(TURNER) ? more : 0;
            shunned = isOf(SHY) ? more % WORLDS : NONE;
            phase = new int[WORLDS];
            speed = new int[WORLDS];
            for (int w = 0; w < WORLDS; w++) {
                phase[w] = -1;
            }
        }

        /** Whether its KIND is one, or stands below it. */
        boolean isOf(int one) {
            int at = kind;
            for (int i = 0; i < ABOVE.length && at >= 0 && at < ABOVE.length; i++) {
                if (at == one) {
                    return true;
                }
                at = ABOVE[at];
            }
            return false;
        }

        int quickAt(int w) {
            if (w < 0 || w >= WORLDS) {
                return 0;
            }
            if (isOf(SLOW)) {
                return speed[w] / 2;
            }
            return isOf(BREATHER) ? speed[w] + more % 10 : speed[w];
        }

        boolean goesBy(int w) {
            return w >= 0 && w < WORLDS && w != shunned && phase[w] >= 0;
        }

        private int shiftIn(int block, int turnedBy) {
            return (block & 1) == 1 ? turnedBy + later : turnedBy;
        }

        /** The day on which it passes a world that it goes by, in a block, as if turned so. */
        int dayIn(int block, int w, int turnedBy) {
            return block * round + (phase[w] + shiftIn(block, turnedBy)) % round;
        }

        /** Bits of the worlds it passes on a day. */
        int worldsOn(int day) {
            int block = day / round;
            int due = Math.floorMod(day - block * round - shiftIn(block, turned), round);
            int bits = 0;
            for (int w = 0; w < WORLDS; w++) {
                if (phase[w] == due && w != shunned) {
                    bits |= 1 << w;
                }
            }
            return bits;
        }

        int firstFrom(int w, int day) {
            if (!goesBy(w)) {
                return NONE;
            }
            int block = day / round;
            int first = dayIn(block, w, turned);
            return first >= day ? first : dayIn(block + 1, w, turned);
        }

        /** On how many days ahead of a day it passes a world. */
        int timesAhead(int w, int day) {
            if (!goesBy(w)) {
                return 0;
            }
            int block = day / round;
            return dayIn(block, w, turned) < day ? block + 1 : block;
        }

        /** The first day from one on, on which both pass a world. */
        int firstWith(Ship other, int w, int day) {
            if (!goesBy(w) || !other.goesBy(w)) {
                return NONE;
            }
            int block = day / round;
            // both repeat after 2 * round * other.round days; one block more, as the first is begun
            for (int k = 0; k <= 2 * other.round; k++) {
                int at = dayIn(block + k, w, turned);
                if (at >= day && other.firstFrom(w, at) == at) {
                    return at;
                }
            }
            return NONE;
        }
    }

    /** All ships, and what they do at a world together. */
    static final class Fleet {
        private static final int ALWAYS = -1;

        final Ship[] ships;
        int size;
        private final int[] marks;

        Fleet() {
            ships = new Ship[SHIPS];
            marks = new int[SPAN];
        }

        Ship shipAt(int s) {
            return s >= 0 && s < size && s < SHIPS ? ships[s] : null;
        }

        int shipsOn(int w, int day) {
            int bits = 0;
            for (int s = 0; s < size; s++) {
                Ship one = shipAt(s);
                if (one != null && (one.worldsOn(day) >> w & 1) == 1) {
                    bits |= 1 << s;
                }
            }
            return bits;
        }

        int rarestPair(int w, int what) {
            int pair = NONE;
            int gap = NONE;
            for (int a = 0; a < size; a++) {
                for (int b = a + 1; b < size; b++) {
                    int days = gapOf(shipAt(a), shipAt(b), w);
                    if (days > gap) {
                        gap = days;
                        pair = 10 * a + b;
                    }
                }
            }
            return what == 0 ? pair : gap;
        }

        private int gapOf(Ship one, Ship other, int w) {
            if (one == null || other == null) {
                return NONE;
            }
            int first = one.firstWith(other, w, 0);
            return first < 0 ? NONE : one.firstWith(other, w, first + 1) - first;
        }

        int longestWait(int w, int d, int n) {
            markAllBut(SHIPS, w, d, n);
            return longestRow(n, ALWAYS);
        }

        int bestTurn(int s, int w, int n, int what) {
            Ship one = shipAt(s);
            if (one == null) {
                return NO_SUCH;
            }
            markAllBut(s, w, 0, n);
            int best = 0;
            int wait = n + 1;
            for (int turned = 0; turned < one.round; turned++) {
                // a stamp of its own, so that no turn's marks have to be wiped out for the next one
                int stamp = turned + 1;
                mark(one, turned, stamp, w, 0, n);
                int row = longestRow(n, stamp);
                if (row < wait) {
                    wait = row;
                    best = turned;
                }
            }
            return what == 0 ? best : wait;
        }

        private void markAllBut(int left, int w, int d, int n) {
            for (int i = 0; i < SPAN; i++) {
                marks[i] = 0;
            }
            for (int s = 0; s < size; s++) {
                Ship one = shipAt(s);
                if (one != null && s != left) {
                    mark(one, one.turned, ALWAYS, w, d, n);
                }
            }
        }

        private void mark(Ship one, int turned, int stamp, int w, int d, int n) {
            if (!one.goesBy(w)) {
                return;
            }
            int block = d / one.round;
            for (int k = 0; k <= SPAN; k++) {
                int i = one.dayIn(block + k, w, turned) - d;
                if (i >= n || i >= SPAN) {
                    return;
                }
                if (i >= 0 && marks[i] != ALWAYS) {
                    marks[i] = stamp;
                }
            }
        }

        private int longestRow(int n, int stamp) {
            int longest = 0;
            int row = 0;
            for (int i = 0; i < n && i < SPAN; i++) {
                row = marks[i] == ALWAYS || marks[i] == stamp ? 0 : row + 1;
                longest = Math.max(longest, row);
            }
            return longest;
        }
    }

    /** A TEXT as three codes, one behind the other: what is to be done, operands first. */
    static final class Law {
        // 0 .. 9999 is that number; -1 .. -6 are the names, in the order in which the document tells them
        static final int QUICK = -1;
        static final int OR = 10000, AND = 10001, NOT = 10002, LESS = 10003, SAME = 10004;
        static final int ADD = 10005, TAKE = 10006, TIMES = 10007, MINUS = 10008;

        /** catch 3 + quick * 2 ; drop 1 + quick ; change 2 ; */
        static final int[] FIRST = {3, QUICK, 2, TIMES, ADD, 1, QUICK, ADD, 2};
        static final int FIRST_DROP = 5, FIRST_CHANGE = 8;

        private final int[] code;
        private final int drop;
        private final int change;

        Law(int[] code, int drop, int change) {
            this.code = code;
            this.drop = drop;
            this.change = change;
        }

        /** Names: as many numbers as there are names; stack: room for what is begun. */
        int valueOf(int part, int[] names, int[] stack) {
            int from = part == CATCH ? 0 : part == DROP ? drop : change;
            int till = part == CATCH ? drop : part == DROP ? change : code.length;
            int top = 0;
            for (int i = from; i < till && i >= 0 && i < code.length; i++) {
                int op = code[i];
                if (op < OR) {
                    if (top < stack.length) {
                        stack[top] = operand(op, names);
                        top++;
                    }
                } else if (op == NOT || op == MINUS) {
                    if (top >= 1) {
                        stack[top - 1] = op == MINUS ? -stack[top - 1] : stack[top - 1] == 0 ? 1 : 0;
                    }
                } else if (top >= 2) {
                    stack[top - 2] = joined(op, stack[top - 2], stack[top - 1]);
                    top--;
                }
            }
            return top >= 1 ? Math.min(99, Math.max(0, stack[0])) : 0;
        }

        private static int operand(int op, int[] names) {
            if (op >= 0) {
                return op;
            }
            int i = -1 - op;
            return i < names.length ? names[i] : 0;
        }

        private static int joined(int op, int a, int b) {
            switch (op) {
                case OR: return a != 0 || b != 0 ? 1 : 0;
                case AND: return a != 0 && b != 0 ? 1 : 0;
                case LESS: return a < b ? 1 : 0;
                case SAME: return a == b ? 1 : 0;
                case ADD: return a + b;
                case TAKE: return a - b;
                default: return a * b;
            }
        }
    }

    /** THE TAPE, and how it is read as a TEXT: first all its TOKENS, then what they say, as a law's code. */
    static final class Reader {
        // kinds of TOKENS; a sign's kind is its byte, a number's is NUMBER and its value
        private static final int END = 0, WRONG = 1, NUMBER = 1000;
        private static final int QUICK_NAME = 2, ROOM_NAME = 3, DAY_NAME = 4;
        private static final int LOAD_NAME = 5, SHIP_NAME = 6, WORLD_NAME = 7;
        private static final int CATCH_KEY = 8, DROP_KEY = 9, CHANGE_KEY = 10;
        private static final int OR_KEY = 11, AND_KEY = 12, NOT_KEY = 13;
        private static final int MOST_OPEN = 5, MOST_DIGITS = 4;
        // what binds how: each rank's parts are of the next one
        private static final int EITHER = 0, BOTH = 1, COMPARISON = 2, SUM = 3, PRODUCT = 4, SINGLE = 5;

        int size;
        int fault;
        private final int[] tape;
        private final int[] kinds;
        private final int[] places;
        private final int[] code;
        private int at;
        private int kind;
        private int length;

        Reader() {
            tape = new int[TAPE];
            kinds = new int[TAPE + 1];
            places = new int[TAPE + 1];
            code = new int[TAPE];
        }

        void add(int one) {
            if (size >= 0 && size < TAPE) {
                tape[size] = one;
                size++;
            }
        }

        /** null, if there is a FAULT, whose place is fault then. */
        Law readLaw() {
            findTokens();
            at = 0;
            kind = kinds[0];
            length = 0;
            fault = NONE;
            if (!part(CATCH_KEY)) {
                return null;
            }
            int drop = length;
            if (!part(DROP_KEY)) {
                return null;
            }
            int change = length;
            if (!part(CHANGE_KEY) || !ended()) {
                return null;
            }
            int[] whole = new int[length];
            System.arraycopy(code, 0, whole, 0, length);
            return new Law(whole, drop, change);
        }

        // ---- TOKENS

        private void findTokens() {
            int count = 0;
            int end = 0;
            for (int i = 0; i < size && i < TAPE; i++) {
                if (i >= end && tape[i] != ' ' && tape[i] != '\n') {
                    end = endOf(i);
                    kinds[count] = kindOf(i, end);
                    places[count] = i;
                    count++;
                }
            }
            kinds[count] = END;
            places[count] = size;
        }

        private static boolean isLetter(int one) {
            return one >= 'a' && one <= 'z';
        }

        private static boolean isDigit(int one) {
            return one >= '0' && one <= '9';
        }

        /** The place behind the TOKEN that begins at one. */
        private int endOf(int from) {
            boolean letters = isLetter(tape[from]);
            boolean digits = isDigit(tape[from]);
            for (int i = from + 1; i < size && i < TAPE; i++) {
                if (!(letters && isLetter(tape[i])) && !(digits && isDigit(tape[i]))) {
                    return i;
                }
            }
            return size;
        }

        private int kindOf(int from, int end) {
            int one = tape[from];
            if (isLetter(one)) {
                return wordKind(from, end);
            }
            if (isDigit(one)) {
                return numberKind(from, end);
            }
            switch (one) {
                case '(': case ')': case ';': case '+': case '-': case '*': case '<': case '=': return one;
                default: return WRONG;
            }
        }

        private int numberKind(int from, int end) {
            if (end - from > MOST_DIGITS) {
                return WRONG;
            }
            int value = 0;
            for (int i = from; i < end && i < TAPE; i++) {
                value = 10 * value + tape[i] - '0';
            }
            return NUMBER + value;
        }

        private int wordKind(int from, int end) {
            for (int k = QUICK_NAME; k <= NOT_KEY; k++) {
                if (isWord(wordOf(k), from, end)) {
                    return k;
                }
            }
            return WRONG;
        }

        private boolean isWord(String word, int from, int end) {
            if (word.length() != end - from || end > TAPE) {
                return false;
            }
            for (int i = 0; i < word.length(); i++) {
                if (word.charAt(i) != tape[from + i]) {
                    return false;
                }
            }
            return true;
        }

        private static String wordOf(int k) {
            switch (k) {
                case QUICK_NAME: return "quick";
                case ROOM_NAME: return "room";
                case DAY_NAME: return "day";
                case LOAD_NAME: return "load";
                case SHIP_NAME: return "ship";
                case WORLD_NAME: return "world";
                case CATCH_KEY: return "catch";
                case DROP_KEY: return "drop";
                case CHANGE_KEY: return "change";
                case OR_KEY: return "or";
                case AND_KEY: return "and";
                default: return "not";
            }
        }

        // ---- one TOKEN after the other

        private void step() {
            if (at < TAPE) {
                at++;
            }
            kind = kinds[at];
        }

        private boolean wrong() {
            fault = places[at];
            return false;
        }

        private boolean skipped(int wanted) {
            if (kind != wanted) {
                return wrong();
            }
            step();
            return true;
        }

        private boolean ended() {
            return kind == END || wrong();
        }

        private void put(int op) {
            if (length < TAPE) {
                code[length] = op;
                length++;
            }
        }

        // ---- E and its parts; open: how many ( , not, - are open

        private boolean part(int key) {
            return skipped(key) && rank(EITHER, 0) && skipped(';');
        }

        /** A row of parts of the next rank with operators of this one between them. */
        private boolean rank(int rank, int open) {
            if (rank == COMPARISON) {
                return negation(open);
            }
            if (rank >= SINGLE) {
                return single(open);
            }
            if (!rank(rank + 1, open)) {
                return false;
            }
            for (int i = 0; i < TAPE && operator(rank) != NONE; i++) {
                int op = operator(rank);
                step();
                if (!rank(rank + 1, open)) {
                    return false;
                }
                put(op);
            }
            return true;
        }

        /** What the TOKEN at hand does as an operator of a rank. */
        private int operator(int rank) {
            switch (kind) {
                case OR_KEY: return rank == EITHER ? Law.OR : NONE;
                case AND_KEY: return rank == BOTH ? Law.AND : NONE;
                case '<': return rank == COMPARISON ? Law.LESS : NONE;
                case '=': return rank == COMPARISON ? Law.SAME : NONE;
                case '+': return rank == SUM ? Law.ADD : NONE;
                case '-': return rank == SUM ? Law.TAKE : NONE;
                case '*': return rank == PRODUCT ? Law.TIMES : NONE;
                default: return NONE;
            }
        }

        private boolean negation(int open) {
            if (kind == NOT_KEY) {
                if (open >= MOST_OPEN) {
                    return wrong();
                }
                step();
                if (!negation(open + 1)) {
                    return false;
                }
                put(Law.NOT);
                return true;
            }
            if (!rank(SUM, open)) {
                return false;
            }
            int op = operator(COMPARISON);
            if (op != NONE) {
                step();
                if (!rank(SUM, open)) {
                    return false;
                }
                put(op);
            }
            return true;
        }

        private boolean single(int open) {
            if (kind >= NUMBER) {
                put(kind - NUMBER);
                step();
                return true;
            }
            if (kind >= QUICK_NAME && kind <= WORLD_NAME) {
                put(Law.QUICK - (kind - QUICK_NAME));
                step();
                return true;
            }
            if ((kind != '-' && kind != '(') || open >= MOST_OPEN) {
                return wrong();
            }
            if (kind == '(') {
                step();
                return rank(EITHER, open + 1) && skipped(')');
            }
            step();
            if (!single(open + 1)) {
                return false;
            }
            put(Law.MINUS);
            return true;
        }
    }

    /** From world to world. A spot is a world (0 .. 3), or, 4 higher, a ship. */
    static final class Ways {
        private static final int SPOTS = WORLDS + SHIPS;
        private static final int FAR = 1000000;
        private static final int ALL_WORLDS = 15;
        private static final int NAMES = 6, DEPTH = 40;

        final int[] found;
        int spot;
        int spent;
        private Fleet fleet;
        private Law law;
        private int many;
        private final int[] by;
        private final int[] states;
        private final int[] cost;
        private final int[] after;
        private final int[] names;
        private final int[] stack;

        Ways() {
            found = new int[SHIPS + 1];
            by = new int[SHIPS];
            states = new int[SHIPS + 1];
            cost = new int[SPOTS];
            after = new int[SPOTS];
            names = new int[NAMES];
            stack = new int[DEPTH];
        }

        /** Ahead of each search: which ships there are, by which law, how many go. */
        void take(Fleet all, Law now, int people) {
            fleet = all;
            law = now;
            many = people;
        }

        int price(int part, int s, int w, int day) {
            Ship one = shipAt(s);
            if (one == null || law == null) {
                return 0;
            }
            names[0] = one.quickAt(w);
            names[1] = one.room;
            names[2] = day;
            names[3] = many;
            names[4] = s;
            names[5] = w;
            return law.valueOf(part, names, stack);
        }

        private Ship shipAt(int s) {
            return fleet == null ? null : fleet.shipAt(s);
        }

        private int worldsOf(int s, int day) {
            Ship one = shipAt(s);
            return one == null ? 0 : one.worldsOn(day);
        }

        private boolean hasRoom(int s) {
            Ship one = shipAt(s);
            return one != null && one.room >= many;
        }

        private void lookAt(int day) {
            for (int s = 0; s < SHIPS; s++) {
                by[s] = worldsOf(s, day);
            }
        }

        // ---- where one may be, as bits of spots

        /** The first day at b, as ship s is out, is found[s]; as none is, found[SHIPS]. Ships from one on are tried. */
        void findDays(int a, int b, int d, int firstOut) {
            for (int out = firstOut; out <= SHIPS; out++) {
                states[out] = 1 << a;
                found[out] = a == b ? d : NONE;
            }
            int open = a == b ? 0 : SHIPS + 1 - firstOut;
            for (int t = 0; t < SPAN && open > 0; t++) {
                lookAt(d + t);
                for (int out = firstOut; out <= SHIPS; out++) {
                    if (found[out] < 0) {
                        states[out] = spread(states[out], out);
                        if ((states[out] >> b & 1) == 1) {
                            found[out] = d + t;
                            open--;
                        }
                    }
                }
            }
        }

        int worldsWithin(int a, int d, int days) {
            int state = 1 << a;
            for (int t = 0; t < days; t++) {
                lookAt(d + t);
                state = spread(state, SHIPS);
            }
            return state & ALL_WORLDS;
        }

        /** One day's acts, from any spot of a state. */
        private int spread(int state, int out) {
            // at these worlds one may be put down, or go aboard from a world or from a ship
            int touched = state & ALL_WORLDS;
            for (int s = 0; s < SHIPS; s++) {
                if ((state >> (WORLDS + s) & 1) == 1) {
                    touched |= by[s];
                }
            }
            int next = state | touched;
            for (int s = 0; s < SHIPS; s++) {
                if ((by[s] & touched) != 0 && s != out && hasRoom(s)) {
                    next |= 1 << (WORLDS + s);
                }
            }
            return next;
        }

        // ---- least FUEL to each spot

        int cheapest(int a, int b, int d, int days) {
            setCosts(a);
            for (int t = 0; t < days; t++) {
                actDay(d + t);
            }
            return cost[b] < FAR ? cost[b] : NONE;
        }

        int onEdge(int a, int b, int d, int what) {
            setCosts(a);
            int points = 0;
            int answer = NOT_SO;
            for (int t = 0; t < SPAN; t++) {
                int ahead = cost[b];
                actDay(d + t);
                if (cost[b] < ahead) {
                    if (what == 2 * points) {
                        answer = d + t;
                    } else if (what == 2 * points + 1) {
                        answer = cost[b];
                    }
                    points++;
                }
            }
            return what == -1 ? points : answer;
        }

        private void setCosts(int a) {
            for (int i = 0; i < SPOTS; i++) {
                cost[i] = i == a ? 0 : FAR;
            }
        }

        private void actDay(int day) {
            lookAt(day);
            // acts go from where one is ahead of the day alone: one act a day
            System.arraycopy(cost, 0, after, 0, SPOTS);
            for (int s = 0; s < SHIPS; s++) {
                for (int w = 0; w < WORLDS && by[s] != 0; w++) {
                    if ((by[s] >> w & 1) == 1) {
                        actAt(s, w, day);
                    }
                }
            }
            System.arraycopy(after, 0, cost, 0, SPOTS);
        }

        private void actAt(int s, int w, int day) {
            int on = WORLDS + s;
            if (cost[on] < after[w]) {
                after[w] = Math.min(after[w], cost[on] + price(DROP, s, w, day));
            }
            if (!hasRoom(s)) {
                return;
            }
            if (cost[w] < after[on]) {
                after[on] = Math.min(after[on], cost[w] + price(CATCH, s, w, day));
            }
            int other = cheapestOther(s, w);
            if (other < after[on]) {
                after[on] = Math.min(after[on], other + price(CHANGE, s, w, day));
            }
        }

        private int cheapestOther(int s, int w) {
            int least = FAR;
            for (int o = 0; o < SHIPS; o++) {
                if (o != s && (by[o] >> w & 1) == 1) {
                    least = Math.min(least, cost[WORLDS + o]);
                }
            }
            return least;
        }

        // ---- a TOLD WAY, act by act

        void setOut(int a) {
            spot = a;
            spent = 0;
        }

        /** Whether it can be done; then it is. Whom: the ship or, of a DROP, the world. */
        boolean act(int day, int what, int whom) {
            switch (what) {
                case CATCH: return caught(day, whom);
                case DROP: return dropped(day, whom);
                case CHANGE: return changed(day, whom);
                default: return false;
            }
        }

        private boolean caught(int day, int s) {
            if (spot >= WORLDS || !hasRoom(s) || (worldsOf(s, day) >> spot & 1) == 0) {
                return false;
            }
            spent += price(CATCH, s, spot, day);
            spot = WORLDS + s;
            return true;
        }

        private boolean dropped(int day, int w) {
            if (spot < WORLDS || (worldsOf(spot - WORLDS, day) >> w & 1) == 0) {
                return false;
            }
            spent += price(DROP, spot - WORLDS, w, day);
            spot = w;
            return true;
        }

        private static int leastOf(int worlds) {
            for (int w = 0; w < WORLDS; w++) {
                if ((worlds >> w & 1) == 1) {
                    return w;
                }
            }
            return NONE;
        }

        private boolean changed(int day, int s) {
            if (spot < WORLDS || spot == WORLDS + s || !hasRoom(s)) {
                return false;
            }
            int shared = worldsOf(spot - WORLDS, day) & worldsOf(s, day);
            if (shared == 0) {
                return false;
            }
            spent += price(CHANGE, s, leastOf(shared), day);
            spot = WORLDS + s;
            return true;
        }
    }

    /** A TRIP, and its RIDE as the ships are now (ship -1: none). */
    static final class Trip {
        int from;
        int to;
        int day;
        int many;
        int ship;
        int caught;
        int off;

        void settle(Fleet fleet) {
            ship = NONE;
            caught = NONE;
            off = NONE;
            for (int s = 0; s < fleet.size; s++) {
                Ship one = fleet.shipAt(s);
                if (one != null && one.room >= many && one.goesBy(from) && one.goesBy(to)) {
                    int on = one.firstFrom(from, day);
                    int end = one.firstFrom(to, on + 1);
                    if (ship < 0 || end < off) {
                        ship = s;
                        caught = on;
                        off = end;
                    }
                }
            }
        }

        boolean isAboard(int s, int on) {
            return ship == s && ship >= 0 && on >= caught && on < off;
        }
    }

    /** All TRIPS; sets of them are bits. Rides are as settle() found them. */
    static final class Trips {
        final Trip[] list;
        int size;

        Trips() {
            list = new Trip[TRIPS];
        }

        int add(int a, int b, int d, int n) {
            if (size < 0 || size >= TRIPS) {
                return FULL;
            }
            if (list[size] == null) {
                list[size] = new Trip();
            }
            Trip one = list[size];
            one.from = a;
            one.to = b;
            one.day = d;
            one.many = n;
            size++;
            return size - 1;
        }

        boolean isSet(int set) {
            return set >= 0 && set < 1 << size;
        }

        void settle(Fleet fleet) {
            for (int i = 0; i < size; i++) {
                if (list[i] != null) {
                    list[i].settle(fleet);
                }
            }
        }

        private Trip oneOf(int set, int i) {
            return i < TRIPS && (set >> i & 1) == 1 ? list[i] : null;
        }

        int peopleOn(int s, int day, int set) {
            int people = 0;
            for (int i = 0; i < size; i++) {
                Trip one = oneOf(set, i);
                if (one != null && one.isAboard(s, day)) {
                    people += one.many;
                }
            }
            return people;
        }

        int peopleOf(int set) {
            int people = 0;
            for (int i = 0; i < size; i++) {
                Trip one = oneOf(set, i);
                if (one != null) {
                    people += one.many;
                }
            }
            return people;
        }

        int firstWrong(int set, Fleet fleet) {
            for (int i = 0; i < size; i++) {
                Trip one = oneOf(set, i);
                if (one != null) {
                    Ship by = fleet.shipAt(one.ship);
                    if (by == null) {
                        return 100 + i;
                    }
                    if (peopleOn(one.ship, one.caught, set) > by.room) {
                        return i;
                    }
                }
            }
            return NONE;
        }

        /** Of the sets with which nothing is wrong that with most people, of like ones the least. */
        int largest(Fleet fleet) {
            int best = 0;
            int most = 0;
            for (int set = 1; set < 1 << size; set++) {
                int people = peopleOf(set);
                if (people > most && firstWrong(set, fleet) < 0) {
                    most = people;
                    best = set;
                }
            }
            return best;
        }
    }

    /** A row of numbers of a sort; its cells are made once, and begun anew. */
    static final class Sheet {
        static final int MISSING = -1, BYTES = 0, SHORTS = 1, INTS = 2;

        final int[] row;
        int sort;
        int size;

        Sheet() {
            row = new int[CELLS];
            sort = MISSING;
        }

        void begin(int newSort, int n) {
            sort = newSort;
            size = n;
            for (int i = 0; i < CELLS; i++) {
                row[i] = 0;
            }
        }

        int get(int i) {
            return i >= 0 && i < size && i < CELLS ? row[i] : 0;
        }

        void put(int i, int v) {
            if (i >= 0 && i < size && i < CELLS) {
                row[i] = sort == BYTES ? v & 255 : sort == SHORTS ? (short) v : v;
            }
        }

        /** Whether n places from i on are there. */
        boolean holds(int i, int n) {
            return i >= 0 && n >= 0 && i <= size && n <= size - i;
        }

        // ---- as CATCHES: by twos, a world and a day

        /** Whether a CATCH comes ahead of another one: by days, then as they stand. */
        boolean isAhead(int i, int other) {
            int day = get(2 * i + 1);
            int otherDay = get(2 * other + 1);
            return day < otherDay || (day == otherDay && i < other);
        }

        /** How many boats of its world are out from the CATCHES ahead of one. */
        int outAhead(int i, int ready) {
            int out = 0;
            for (int k = 0; k < size / 2; k++) {
                boolean like = get(2 * k) == get(2 * i);
                if (like && isAhead(k, i) && get(2 * k + 1) + ready > get(2 * i + 1)) {
                    out++;
                }
            }
            return out;
        }
    }
}
