import java.io.IOException;

/** Sentence by sentence, what the promises tell: the last that is so, and the first that isn't. */
public final class SentenceTest extends Sentences {
    private static final int MIN = Integer.MIN_VALUE, MAX = Integer.MAX_VALUE;
    private static final int PROMISES = 46;

    public static void main(String[] args) throws IOException {
        newObject();
        worldAndPort();
        ship();
        loop();
        turn();
        shipTold();
        count();
        passesAndHere();
        often();
        next();
        meets();
        seldom();
        seldomRefusals();
        miss();
        waits();
        choose();
        chooseRefusals();
        feed();
        text();
        force();
        fuel();
        soon();
        reach();
        least();
        edge();
        bears();
        needed();
        judge();
        toldFuel();
        fewest();
        lacks();
        trip();
        ride();
        aboard();
        book();
        most();
        together();
        bread();
        grow();
        image();
        back();
        sheet();
        cell();
        copy();
        copyRefusals();
        tripsBy();
        tripsByRefusals();
        taken();
        String[] all = new String[PROMISES];
        for (int i = 1; i <= PROMISES; i++) {
            all[i - 1] = name(i);
        }
        end(all);
    }

    private static String name(int promise) {
        return "Promise " + promise + ":";
    }

    private static void says(int promise, String words) {
        says(name(promise), words);
    }

    // ---- worlds, ships

    private static void newObject() {
        says(1, "No worlds, ships, TRIPS.");
        NeverStop x = new NeverStop();
        due("worlds", x.count(0), 0);
        due("ships", x.count(1), 0);
        due("TRIPS", x.count(2), 0);
        due("world 0", x.port(0, 0, 1), -5);
        due("ship 0", x.turn(0, 0), -5);
        due("TRIP 0", x.ride(0, 0), -5);
        for (int i = 0; i <= 12; i++) {
            due("place " + i, x.taken(i, i < 4 ? 6 : 0), -11);
        }
        // another object has nothing of this one's
        x.world(1, 1);
        x.world(1, 1);
        x.ship(0, 5, 0, 1);
        x.trip(0, 1, 0, 1);
        x.image();
        x.sheet(0, 2, 1);
        NeverStop y = new NeverStop();
        for (int what = 0; what < 6; what++) {
            due("count(" + what + ") of another", y.count(what), what == 3 ? 1 : 0);
        }
        due("THE IMAGE of another", y.back(), -3);
        due("a SHEET of another", y.cell(0, 0, 0), -11);
    }

    private static void worldAndPort() {
        says(2, "A world (BOATS, READY): its number. BAD; FULL.");
        within("BOATS", v -> new NeverStop().world(v, 99), 0, 9, -2);
        within("READY", v -> new NeverStop().world(9, v), 1, 99, -2);
        NeverStop x = worlds(3);
        due("both wrong", x.world(10, 0), -2);
        due("nothing came", x.count(0), 3);
        due("the last", x.world(8, 88), 3);
        due("FULL", x.world(0, 1), -4);
        due("BAD, while it is FULL", x.world(0, 100), -2);
        due("its BOATS", x.taken(3, 6), 8);
        says(3, "What 0 BOATS, 1 READY of a world becomes v: what was. -5: no such world; -7: what, v.");
        due("BOATS", x.port(3, 0, 0), 8);
        due("BOATS again", x.port(3, 0, 9), 0);
        due("READY", x.port(3, 1, 1), 88);
        due("READY again", x.port(3, 1, 99), 1);
        due("BOATS as they were", x.port(3, 0, 9), 9);
        within("world", v -> x.port(v, 0, 1), 0, 3, -5);
        within("world of three", v -> worlds(3).port(v, 1, 1), 0, 2, -5);
        within("what", v -> x.port(0, v, 1), 0, 1, -7);
        within("BOATS", v -> x.port(0, 0, v), 0, 9, -7);
        within("READY", v -> x.port(0, 1, v), 1, 99, -7);
        due("no world, what, v", x.port(4, 2, 100), -5);
        NeverStop y = worlds(1);
        y.port(0, 0, 10);
        y.port(0, 1, 100);
        due("BOATS stay", y.port(0, 0, 1), 1);
        due("READY stays", y.port(0, 1, 1), 1);
    }

    private static void ship() {
        says(4, "A ship (KIND, ROUND, MORE, HAS): its number. BAD; FULL.");
        within("KIND", v -> new NeverStop().ship(v, 60, 29, 99), 0, 5, -2);
        within("ROUND", v -> new NeverStop().ship(5, v, 29, 99), 2, 60, -2);
        within("MORE", v -> new NeverStop().ship(5, 60, v, 99), 0, 29, -2);
        within("HAS", v -> new NeverStop().ship(5, 60, 29, v), 0, 99, -2);
        NeverStop x = new NeverStop();
        for (int s = 0; s < 9; s++) {
            due("BAD", x.ship(0, 61, 0, 0), -2);
            due("its number", x.ship(s % 6, 2 + s, s, s), s);
        }
        due("FULL", x.ship(0, 2, 0, 0), -4);
        due("BAD, while it is FULL", x.ship(0, 2, 0, 100), -2);
        due("how many", x.count(1), 9);
    }

    private static void loop() {
        says(5, "PHASE (-1: never) and SPEED of a ship at a world: which PHASE was. "
            + "-5: no such ship; -7: no such world is there; BAD.");
        NeverStop x = worlds(2);
        x.ship(0, 7, 0, 1);
        due("never was", x.loop(0, 1, 6, 9), -1);
        due("6 was", x.loop(0, 1, 0, 0), 6);
        due("0 was", x.loop(0, 1, -1, 5), 0);
        due("never was again", x.loop(0, 1, -1, 9), -1);
        due("SPEED where it never is", x.shipTold(0, 10), 9);
        due("PHASE of the other world", x.shipTold(0, 5), -1);
        within("ship", v -> x.loop(v, 0, 0, 0), 0, 0, -5);
        within("world", v -> x.loop(0, v, 0, 0), 0, 1, -7);
        within("PHASE", v -> x.loop(0, 0, v, 0), -1, 6, -2);
        within("SPEED", v -> x.loop(0, 0, 0, v), 0, 9, -2);
        due("a world that isn't there yet", x.loop(0, 2, 0, 0), -7);
        x.world(1, 1);
        due("it is there now", x.loop(0, 2, 0, 0), -1);
        due("no ship, no world", x.loop(1, 3, 7, 10), -5);
        due("no world, no PHASE", x.loop(0, 3, 7, 10), -7);
    }

    private static void turn() {
        says(6, "TURNED of a ship: what it was. -5: no such ship; -7: d.");
        NeverStop x = new NeverStop();
        due("no ships", x.turn(0, 0), -5);
        x.ship(0, 2, 0, 1);
        x.ship(0, 60, 0, 1);
        within("ship", v -> x.turn(v, 0), 0, 1, -5);
        within("d of a ROUND of 2", v -> x.turn(0, v), 0, 1, -7);
        within("d of a ROUND of 60", v -> x.turn(1, v), 0, 59, -7);
        due("no ship, no d", x.turn(2, 60), -5);
        x.turn(1, 58);
        due("58 was", x.turn(1, 59), 58);
        due("59 was", x.turn(1, 60), -7);
        due("59 is yet", x.turn(1, 0), 59);
        due("0 was", x.turn(1, 0), 0);
    }

    private static void shipTold() {
        says(7, "Of a ship what 0 KIND, 1 ROUND, 2 MORE, 3 ROOM, 4 TURNED, 5 .. 8 its PHASE at world what less 5, "
            + "9 .. 12 how QUICK it is at world what less 9. -5: no such ship; -7: what.");
        NeverStop x = worlds(4);
        x.ship(0, 2, 0, 0);
        x.ship(5, 60, 28, 98);
        for (int w = 0; w < 4; w++) {
            x.loop(1, w, 10 * w + 1, w + 1);
        }
        x.turn(1, 44);
        int[] want = {5, 60, 28, 97, 44, 1, 11, 21, 31, 9, 10, 11, 12};
        for (int what = 0; what <= 12; what++) {
            due("what " + what, x.shipTold(1, what), want[what]);
        }
        within("what", v -> x.shipTold(1, v), 0, 12, -7);
        within("ship", v -> x.shipTold(v, 0), 0, 1, -5);
        due("no ship, no what", x.shipTold(2, 13), -5);
    }

    private static void count() {
        says(8, "0 worlds, 1 ships, 2 TRIPS, 3 TEXTS, 4 THE LAW, 5 bytes of THE TAPE. BAD.");
        NeverStop x = worlds(4);
        within("what", x::count, 0, 5, -2);
        for (int s = 0; s < 9; s++) {
            x.ship(0, 2, 0, 0);
        }
        for (int i = 0; i < 10; i++) {
            x.trip(0, 1, 0, 1);
        }
        for (int t = 1; t < 6; t++) {
            textOf(x, "catch 1;drop 1;change 1;");
        }
        x.force(5);
        feedAll(x, "x".repeat(160));
        int[] full = {4, 9, 10, 6, 5, 160};
        for (int what = 0; what <= 5; what++) {
            due("all there can be, " + what, x.count(what), full[what]);
        }
    }

    // ---- passings

    private static void passesAndHere() {
        says(9, "Worlds (bits) that a ship PASSES on a day. -5: no such ship; -7: day.");
        NeverStop x = worlds(4);
        plain(x, 10, 9, 0, 0, 0, 0);
        due("all worlds", x.passes(0, 20000), 15);
        due("no world", x.passes(0, 19999), 0);
        for (int w = 0; w < 4; w++) {
            x.loop(0, w, w, 0);
        }
        for (int d = 0; d < 12; d++) {
            due("on day " + d, x.passes(0, d), d % 10 < 4 ? 1 << d % 10 : 0);
        }
        within("ship", v -> x.passes(v, 0), 0, 0, -5);
        within("day", v -> x.passes(0, v), 0, 20000, -7);
        due("no ship, no day", x.passes(1, -1), -5);
        says(10, "Ships (bits) that PASS a world on a day. -5: no such world; -7: day.");
        NeverStop y = worlds(4);
        due("no ships", y.here(3, 0), 0);
        for (int s = 0; s < 9; s++) {
            plain(y, 10, 9, 0, s, -1);
        }
        due("all ships", y.here(0, 20000), 511);
        due("no ship that day", y.here(0, 19999), 0);
        for (int d = 0; d < 12; d++) {
            due("on day " + d, y.here(1, d), d % 10 < 9 ? 1 << d % 10 : 0);
        }
        due("no ship ever", y.here(2, 0), 0);
        within("world", v -> y.here(v, 0), 0, 3, -5);
        within("world of three", v -> worlds(3).here(v, 0), 0, 2, -5);
        within("day", v -> y.here(0, v), 0, 20000, -7);
        due("no world, no day", y.here(4, 20001), -5);
    }

    private static void often() {
        says(11, "How often a ship PASSES a world on n days (0 .. 4000) from one on. -5: ship, world; -7: day, n.");
        NeverStop x = worlds(2);
        plain(x, 10, 9, 3);
        due("on no days", x.often(0, 0, 3, 0), 0);
        due("on the day itself", x.often(0, 0, 3, 1), 1);
        due("ahead of it", x.often(0, 0, 0, 3), 0);
        due("till it", x.often(0, 0, 0, 4), 1);
        due("on the days between", x.often(0, 0, 4, 9), 0);
        due("till the next one", x.often(0, 0, 4, 10), 1);
        due("from it till the next one", x.often(0, 0, 3, 11), 2);
        due("from the last day on", x.often(0, 0, 20000, 3), 0);
        due("behind the last day", x.often(0, 0, 20000, 4), 1);
        due("all days", x.often(0, 0, 20000, 4000), 400);
        due("never", x.often(0, 1, 0, 4000), 0);
        // a TURNER that is later by 9 of 10 days: on 0, 19, 20, 39, 40, ..
        ship(x, 3, 10, 9, 9, 0);
        due("two days in a row", x.often(1, 0, 19, 2), 2);
        due("a long way between", x.often(1, 0, 1, 18), 0);
        due("two rounds", x.often(1, 0, 0, 20), 2);
        ship(x, 3, 2, 1, 9, 0);
        due("two of four days", x.often(2, 0, 1, 4000), 2000);
        within("n", v -> x.often(0, 0, 0, v), 0, 4000, -7);
        within("day", v -> x.often(0, 0, v, 0), 0, 20000, -7);
        within("ship", v -> x.often(v, 0, 0, 0), 0, 2, -5);
        within("world", v -> x.often(0, v, 0, 0), 0, 1, -5);
        due("no world, no day", x.often(0, 2, -1, -1), -5);
        due("no ship, no n", x.often(3, 0, 0, 4001), -5);
    }

    private static void next() {
        says(12, "The first day from one on, on which a ship PASSES a world; -1: never. -5: ship, world; -7: day.");
        NeverStop x = worlds(2);
        plain(x, 60, 9, 59);
        due("on the day itself", x.next(0, 0, 59), 59);
        due("from day 0 on", x.next(0, 0, 0), 59);
        due("from the day behind it on", x.next(0, 0, 60), 119);
        due("from the last day on", x.next(0, 0, 20000), 20039);
        due("never", x.next(0, 1, 0), -1);
        // a TURNER that is later by 29 of 30 days: on 0, 59, 60, 119, ..
        ship(x, 3, 30, 29, 9, 0);
        due("nearly two rounds later", x.next(1, 0, 1), 59);
        due("the very next day", x.next(1, 0, 60), 60);
        // 19980 is day 0 of an even round of 60 days, of 30, too
        due("on the last even round", x.next(1, 0, 19980), 19980);
        due("behind the last day", x.next(1, 0, 20000), 20039);
        x.loop(0, 0, -1, 0);
        due("never again", x.next(0, 0, 0), -1);
        within("ship", v -> x.next(v, 0, 0), 0, 1, -5);
        within("world", v -> x.next(0, v, 0), 0, 1, -5);
        within("day", v -> x.next(1, 0, v), 0, 20000, -7);
        due("no ship, no day", x.next(2, 0, 20001), -5);
        due("no world, no day", x.next(0, 2, 20001), -5);
    }

    private static void meets() {
        says(13, "The first day from one on, on which two ships PASS a world both; -1: never. "
            + "-5: ships (alike, too), world; -7: day.");
        NeverStop x = worlds(2);
        plain(x, 59, 9, 58);
        plain(x, 60, 9, 59);
        due("on the last day of all", x.meets(0, 1, 0, 0), 3539);
        due("on the day itself", x.meets(1, 0, 0, 3539), 3539);
        due("all rounds later", x.meets(1, 0, 0, 3540), 7079);
        due("behind the last day", x.meets(0, 1, 0, 20000), 21239);
        due("at another world", x.meets(0, 1, 1, 0), -1);
        // TURNERS of 59 and 60 days: both repeat after two rounds of either, 7080 days
        ship(x, 3, 59, 29, 9, 0);
        ship(x, 3, 60, 29, 9, 0);
        due("on day 0", x.meets(2, 3, 0, 0), 0);
        due("again after all rounds at the latest", x.meets(2, 3, 0, 7080), 7080);
        plain(x, 10, 9, 0);
        plain(x, 10, 9, 1);
        due("never", x.meets(4, 5, 0, 0), -1);
        plain(x, 2, 9, 1);
        due("one passes on even days, one on odd ones", x.meets(4, 6, 0, 0), -1);
        due("both on odd days", x.meets(5, 6, 0, 2), 11);
        // on 2, 5, 8, .. and on 2, 5, 12, 15, ..: on 2 and 5 both, then not before 32
        plain(x, 3, 9, 2);
        ship(x, 3, 5, 3, 9, 2);
        due("twice in a row", x.meets(7, 8, 0, 3), 5);
        due("not for a long time then", x.meets(7, 8, 0, 6), 32);
        due("whichever is the first", x.meets(8, 7, 0, 6), 32);
        within("day", v -> x.meets(0, 1, 0, v), 0, 20000, -7);
        within("one", v -> x.meets(v, v == 1 ? 0 : 1, 0, 0), 0, 8, -5);
        within("other", v -> x.meets(v == 1 ? 0 : 1, v, 0, 0), 0, 8, -5);
        within("world", v -> x.meets(0, 1, v, 0), 0, 1, -5);
        for (int s = 0; s <= 8; s++) {
            due("alike: " + s, x.meets(s, s, 0, 0), -5);
        }
        due("alike, no day", x.meets(0, 0, 0, -1), -5);
        due("no world, no day", x.meets(0, 1, 2, -1), -5);
    }

    private static void seldom() {
        says(14, "Of all pairs of ships that ever PASS a world both on a day (from day 0 on) the one for which from the "
            + "first such day the next one is most days later, of like ones the first (by the lesser, then the other): "
            + "what 0 10 times the lesser, and the other one, 1 those days; -1: there is none.");
        NeverStop x = worlds(2);
        due("no ships", x.seldom(0, 0), -1);
        due("no ships: days", x.seldom(0, 1), -1);
        plain(x, 10, 9, 0);
        due("one ship", x.seldom(0, 0), -1);
        plain(x, 10, 9, 1);
        due("two that never meet", x.seldom(0, 0), -1);
        due("two that never meet: days", x.seldom(0, 1), -1);
        plain(x, 10, 9, 1);
        due("two that meet", x.seldom(0, 0), 12);
        due("two that meet: days", x.seldom(0, 1), 10);
        due("at another world", x.seldom(1, 0), -1);
        plain(x, 10, 9, 0);
        due("of like ones the lesser", x.seldom(0, 0), 3);
        plain(x, 10, 9, 0);
        due("of like ones the lesser other one", x.seldom(0, 0), 3);
        plain(x, 20, 9, 11);
        due("one that is seen half as often", x.seldom(0, 0), 15);
        due("its days", x.seldom(0, 1), 20);
        plain(x, 20, 9, 10);
        due("of like ones the lesser again", x.seldom(0, 0), 6);
        plain(x, 60, 9, 59);
        plain(x, 59, 9, 58);
        due("the last two", x.seldom(0, 0), 78);
        due("as seldom as can be", x.seldom(0, 1), 3540);
        // TURNERS alike, on 4, 5, 14, 15, ..: from the first day the next one is the day behind it
        NeverStop y = worlds(1);
        ship(y, 3, 5, 1, 9, 4);
        ship(y, 3, 5, 1, 9, 4);
        due("the first two days alone", y.seldom(0, 1), 1);
        // on 0, 9, 10, ..: from the first day, not from the longest wait on
        NeverStop z = worlds(1);
        ship(z, 3, 5, 4, 9, 0);
        ship(z, 3, 5, 4, 9, 0);
        due("from the first such day", z.seldom(0, 1), 9);
    }

    private static void seldomRefusals() {
        says(14, "-5: no such world; -7: what.");
        NeverStop x = worlds(2);
        within("world", v -> x.seldom(v, 0), 0, 1, -5);
        within("what", v -> x.seldom(0, v), 0, 1, -7);
        due("no world, no what", x.seldom(2, 2), -5);
    }

    private static void miss() {
        says(15, "How many days behind a day on which it PASSES a world a ship does so next. "
            + "-5: ship, world; -7: day; STATE: it doesn't PASS it on that day.");
        NeverStop x = worlds(2);
        plain(x, 2, 9, 0);
        plain(x, 60, 9, 20);
        // later by 29 of 30 days: on 0, 59, 60, ..
        ship(x, 3, 30, 29, 9, 0);
        due("least of a plain ship", x.miss(0, 0, 0), 2);
        due("most of a plain ship", x.miss(1, 0, 20), 60);
        due("on the last day", x.miss(1, 0, 20000), 60);
        due("most of a TURNER", x.miss(2, 0, 0), 59);
        due("least of a TURNER", x.miss(2, 0, 59), 1);
        due("the day ahead", x.miss(1, 0, 19), -3);
        due("the day behind", x.miss(1, 0, 21), -3);
        due("never", x.miss(1, 1, 20), -3);
        within("ship", v -> x.miss(v, 0, 0) == -3 ? 0 : x.miss(v, 0, 0), 0, 2, -5);
        within("world", v -> x.miss(0, v, 0) == -3 ? 0 : x.miss(0, v, 0), 0, 1, -5);
        within("day", v -> x.miss(0, 0, v), 0, 20000, -7);
        due("no ship, no day", x.miss(3, 0, 20001), -5);
        due("no world, no day", x.miss(0, 2, 20001), -5);
        due("no day on which it doesn't pass", x.miss(1, 0, -1), -7);
    }

    private static void waits() {
        says(16, "The longest row of days, of n (1 .. 200) from one on, on which no ship PASSES a world. "
            + "-5: no such world; -7: day, n.");
        NeverStop x = worlds(2);
        due("no ships, a day", x.waits(0, 0, 1), 1);
        due("no ships, all days", x.waits(0, 20000, 200), 200);
        plain(x, 60, 9, 40);
        due("a day without", x.waits(0, 39, 1), 1);
        due("a day with", x.waits(0, 40, 1), 0);
        due("the days ahead", x.waits(0, 0, 41), 40);
        due("the days between", x.waits(0, 0, 200), 59);
        due("the first of them", x.waits(0, 41, 58), 58);
        due("all of them", x.waits(0, 41, 59), 59);
        due("and the next one", x.waits(0, 41, 60), 59);
        due("two rows, the second longer", x.waits(0, 30, 70), 59);
        due("two rows, cut off", x.waits(0, 35, 10), 5);
        due("two rows, the first longer", x.waits(0, 30, 15), 10);
        due("from the last day on", x.waits(0, 20000, 21), 20);
        due("never passed", x.waits(1, 0, 200), 200);
        plain(x, 2, 9, 0);
        due("every second day", x.waits(0, 0, 200), 1);
        plain(x, 2, 9, 1);
        due("each day", x.waits(0, 0, 200), 0);
        within("n", v -> x.waits(0, 0, v), 1, 200, -7);
        within("day", v -> x.waits(0, v, 1), 0, 20000, -7);
        within("world", v -> x.waits(v, 0, 1), 0, 1, -5);
        due("no world, no day", x.waits(2, -1, 0), -5);
    }

    private static void choose() {
        says(17, "What 0 the least TURNED of a ship by which waits(w, 0, n) would be least (n 1 .. 200), 1 what that is.");
        NeverStop x = worlds(2);
        plain(x, 60, 9, 0);
        due("one day", x.choose(0, 0, 1, 0), 0);
        due("one day: waits", x.choose(0, 0, 1, 1), 0);
        due("two days", x.choose(0, 0, 2, 0), 0);
        due("two days: waits", x.choose(0, 0, 2, 1), 1);
        due("three days", x.choose(0, 0, 3, 0), 1);
        due("three days: waits", x.choose(0, 0, 3, 1), 1);
        due("four days", x.choose(0, 0, 4, 0), 1);
        due("four days: waits", x.choose(0, 0, 4, 1), 2);
        due("all days", x.choose(0, 0, 200, 0), 0);
        due("all days: waits", x.choose(0, 0, 200, 1), 59);
        due("119 days, with one passing in the middle", x.choose(0, 0, 119, 0), 0);
        due("by the last TURNED", x.choose(0, 0, 119, 1), 59);
        x.loop(0, 0, 1, 0);
        due("the last TURNED", x.choose(0, 0, 1, 0), 59);
        x.turn(0, 7);
        due("whatever it is turned", x.choose(0, 0, 1, 0), 59);
        due("it stays so", x.shipTold(0, 4), 7);
        due("never by", x.choose(0, 1, 200, 0), 0);
        due("never by: waits", x.choose(0, 1, 200, 1), 200);
        // ship 1 passes on 4, 14, ..: halfway between, 9, is best of ten
        NeverStop y = worlds(1);
        plain(y, 10, 9, 0);
        plain(y, 10, 9, 4);
        due("halfway between", y.choose(0, 0, 200, 0), 9);
        due("halfway between: waits", y.choose(0, 0, 200, 1), 4);
        due("all days ahead of its own", y.choose(0, 0, 4, 0), 1);
        due("the days ahead: waits", y.choose(0, 0, 4, 1), 2);
    }

    private static void chooseRefusals() {
        says(17, "-5: ship, world; -7: n, what.");
        NeverStop x = worlds(2);
        plain(x, 60, 9, 0);
        plain(x, 2, 9, 0);
        within("ship", v -> x.choose(v, 0, 1, 0), 0, 1, -5);
        within("world", v -> x.choose(0, v, 1, 0), 0, 1, -5);
        within("n", v -> x.choose(0, 0, v, 0), 1, 200, -7);
        within("what", v -> x.choose(0, 0, 1, v), 0, 1, -7);
        due("no ship, no n", x.choose(2, 0, 0, 0), -5);
        due("no world, no what", x.choose(0, 2, 1, 2), -5);
    }

    // ---- the law

    private static void feed() {
        says(18, "The n lowest bytes of w, the highest first, come behind THE TAPE's: how many it has. BAD: n not 1 .. 8; FULL.");
        NeverStop x = worlds(1);
        plain(x, 5, 9, 0);
        due("one byte", x.feed(-1L << 8 | 'c', 1), 1);
        due("three bytes", x.feed(-1L << 24 | 'a' << 16 | 't' << 8 | 'c', 3), 4);
        due("two bytes", x.feed((long) 'h' << 8 | '7', 2), 6);
        due("eight bytes", x.feed(0x3b64726f7020383bL, 8), 14);
        due("rest", feedAll(x, "change 9;"), 23);
        due("they are a TEXT", x.text(), 1);
        x.force(1);
        for (int part = 0; part < 3; part++) {
            due("part " + part, x.fuel(part, 0, 0, 0, 1), 7 + part);
        }
        due("it is empty", x.count(5), 0);
        within("n", v -> new NeverStop().feed(0, v), 1, 8, -2);
        due("all bits", x.feed(-1, 8), 8);
        due("begin no TOKEN", x.text(), -100);
        for (int n = 1; n <= 8; n++) {
            NeverStop y = new NeverStop();
            feedAll(y, " ".repeat(160 - n));
            due("one too many", y.feed(0, n == 8 ? 8 : n + 1), n == 8 ? 160 : -4);
            due("just enough", n == 8 ? 160 : y.feed(0, n), 160);
            due("FULL", y.feed(0, 1), -4);
            due("BAD, while it is FULL", y.feed(0, 0), -2);
            due("BAD, while it is FULL", y.feed(0, 9), -2);
            due("how many", y.count(5), 160);
        }
    }

    private static void text() {
        says(19, "THE TAPE, which is empty then (by a FAULT, too), is a TEXT: its number; -100 less the place of its FAULT. "
            + "FULL (ahead of the FAULT; then THE TAPE stays).");
        NeverStop x = new NeverStop();
        String good = "catch 1;drop 1;change 1;";
        due("an empty one", x.text(), -100);
        due("a TEXT", textOf(x, good), 1);
        due("it is empty then", x.count(5), 0);
        due("once alone", x.text(), -100);
        due("a FAULT", textOf(x, good + "1"), -124);
        due("it is empty then, too", x.count(5), 0);
        due("a FAULT on the last place", textOf(x, good + " ".repeat(135) + "1"), -259);
        due("a FAULT behind the last place", textOf(x, good.substring(0, 23) + " ".repeat(137)), -260);
        for (int t = 2; t <= 5; t++) {
            due("TEXT " + t, textOf(x, good), t);
        }
        due("FULL", textOf(x, good), -4);
        due("THE TAPE stays", x.count(5), 24);
        due("FULL again", x.text(), -4);
        due("with a FAULT", textOf(x, "?"), -4);
        due("THE TAPE stays", x.count(5), 25);
        NeverStop y = new NeverStop();
        for (int t = 1; t <= 5; t++) {
            textOf(y, good);
        }
        due("FULL with nothing on THE TAPE", y.text(), -4);
        NeverStop z = new NeverStop();
        due("as many TOKENS as bytes", textOf(z, "(".repeat(160)), -100);
        due("as many NUMBERS as can be", textOf(z, "catch 1" + "+1".repeat(68) + ";drop 1;change 1;"), 1);
        due("as many ( as bytes behind catch", textOf(z, "catch" + "(".repeat(155)), -110);
    }

    private static void force() {
        says(20, "A TEXT is THE LAW: which was. BAD.");
        NeverStop x = new NeverStop();
        due("TEXT 0 was", x.force(0), 0);
        within("TEXT of one", x::force, 0, 0, -2);
        for (int t = 1; t <= 5; t++) {
            due("ahead of it", x.force(t), -2);
            textOf(x, "catch 1;drop 1;change 1;");
            due("which was", x.force(t), t - 1);
        }
        due("the same again", x.force(5), 5);
        due("a seventh", x.force(6), -2);
        due("it stays", x.count(4), 5);
        within("TEXT", x::force, 0, 5, -2);
    }

    private static void fuel() {
        says(21, "FUEL of part 0 catch, 1 drop, 2 change (whether it PASSES or not). BAD: part; -5: ship, world; -7: day, SO MANY.");
        NeverStop x = worlds(2);
        plain(x, 5, 0, 1);
        x.loop(0, 1, -1, 9);
        due("catch where it passes", x.fuel(0, 0, 0, 1, 1), 3);
        due("catch where it doesn't that day", x.fuel(0, 0, 0, 0, 1), 3);
        due("catch where it never does", x.fuel(0, 0, 1, 0, 1), 21);
        due("drop where it never does", x.fuel(1, 0, 1, 0, 1), 10);
        due("change where it never does", x.fuel(2, 0, 1, 0, 1), 2);
        due("with more than its ROOM", x.fuel(0, 0, 0, 1, 99), 3);
        // SHY of world 0 (MORE 0), as quick there as it would be
        ship(x, 4, 5, 0, 9, 1);
        x.loop(1, 0, 1, 7);
        due("catch where it is shy", x.fuel(0, 1, 0, 1, 1), 17);
        within("part", v -> x.fuel(v, 0, 0, 0, 1), 0, 2, -2);
        within("ship", v -> x.fuel(0, v, 0, 0, 1), 0, 1, -5);
        within("world", v -> x.fuel(0, 0, v, 0, 1), 0, 1, -5);
        within("day", v -> x.fuel(0, 0, 0, v, 1), 0, 20000, -7);
        within("SO MANY", v -> x.fuel(0, 0, 0, 0, v), 1, 99, -7);
        due("no part, no ship", x.fuel(3, 2, 0, -1, 0), -2);
        due("no ship, no day", x.fuel(0, 2, 0, -1, 1), -5);
        due("no world, not so many", x.fuel(0, 0, 2, 0, 100), -5);
    }

    // ---- from world to world

    /** World 0 to 1 by ship 0 (days 59, 118), 1 to 2 by ship 1 (177, 236): 178 days from the catch on. */
    private static NeverStop longWay() {
        NeverStop x = worlds(3);
        plain(x, 60, 9, 59, 58);
        plain(x, 60, 9, -1, 57, 56);
        return x;
    }

    private static void soon() {
        says(22, "The first day by whose act, of 200 days, one may be at b (d itself, if that is a); -1: none.");
        NeverStop x = longWay();
        due("on the 200th day", x.soon(0, 2, 37, 1), 236);
        due("on the 201st day", x.soon(0, 2, 36, 1), -1);
        due("from the catch on", x.soon(0, 2, 59, 1), 236);
        due("a day too late for it, on the 237th day", x.soon(0, 2, 60, 1), -1);
        due("back again", x.soon(2, 0, 0, 1), 59);
        due("to itself", x.soon(2, 2, 36, 1), 36);
        due("to itself on the last day, with no ROOM", x.soon(2, 2, 20000, 99), 20000);
        due("on the day behind", toAndFro(1).soon(0, 1, 0, 1), 1);
        due("no ships", worlds(2).soon(0, 1, 0, 1), -1);
        due("not so many", x.soon(0, 1, 0, 10), -1);
    }

    private static NeverStop toAndFro(int ships) {
        NeverStop x = worlds(2);
        for (int s = 0; s < ships; s++) {
            plain(x, 2, 9, 0, 1);
        }
        return x;
    }

    private static void reach() {
        says(23, "Worlds (bits) at which one may be within so many days (0 .. 200): by acts on d and those behind it. -7: days.");
        NeverStop x = longWay();
        due("no days", x.reach(0, 59, 1, 0), 1);
        due("no days, from another world", x.reach(2, 59, 1, 0), 4);
        due("a day", x.reach(0, 59, 1, 1), 1);
        due("a day too few", x.reach(0, 59, 1, 59), 1);
        due("just enough", x.reach(0, 59, 1, 60), 3);
        due("a day too few for the last", x.reach(0, 59, 1, 177), 3);
        due("just enough for the last", x.reach(0, 59, 1, 178), 7);
        due("all days from 37 on", x.reach(0, 37, 1, 200), 7);
        due("a day less", x.reach(0, 37, 1, 199), 3);
        due("all days from 36 on", x.reach(0, 36, 1, 200), 3);
        within("days", v -> x.reach(0, 0, 1, v), 0, 200, -7);
        due("no world, no days", x.reach(3, 0, 1, 201), -5);
        due("no day, no days", x.reach(0, -1, 1, -1), -5);
        due("not so many, no days", x.reach(0, 0, 0, -1), -5);
    }

    private static void least() {
        says(24, "LEAST FUEL within so many days (0 .. 200); -1: none. -7: days.");
        NeverStop x = longWay();
        due("no days, to itself", x.least(1, 1, 0, 1, 0), 0);
        due("all days, to itself", x.least(1, 1, 0, 1, 200), 0);
        due("no days", x.least(0, 1, 59, 1, 0), -1);
        due("a day too few", x.least(0, 1, 59, 1, 59), -1);
        due("just enough", x.least(0, 1, 59, 1, 60), 4);
        due("all days from 37 on", x.least(0, 2, 37, 1, 200), 8);
        due("a day less", x.least(0, 2, 37, 1, 199), -1);
        due("all days from 36 on", x.least(0, 2, 36, 1, 200), -1);
        lawOf(x, "catch -1;drop 0;change 0;");
        due("for nothing", x.least(0, 2, 37, 1, 200), 0);
        lawOf(x, "catch 9999;drop 100;change 0;");
        due("as dear as can be", x.least(0, 2, 37, 1, 200), 4 * 99);
        within("days", v -> x.least(0, 1, 0, 1, v), 0, 200, -7);
        due("no world, no days", x.least(0, 3, 0, 1, 201), -5);
        due("no days, to itself", x.least(0, 0, 0, 1, 201), -7);
        due("another world first", x.least(1, 0, 58, 1, 2), 198);
        due("back from there", x.least(2, 0, 0, 1, 200), 396);
        due("the first again", x.least(1, 0, 58, 1, 1), -1);
        // a chain of one-day acts, each of 99: caught, let off, by turns
        NeverStop y = toAndFro(1);
        lawOf(y, "catch 99;drop 99;change 99;");
        due("no more acts than needed", y.least(0, 1, 0, 1, 200), 198);
    }

    private static void edge() {
        says(25, "EDGE: how many (what -1), by turns the day and FUEL of each (what 0, 1, 2, ..). -5 (a is b, too); -7: what.");
        NeverStop x = worlds(2);
        plain(x, 10, 9, 0, 5);
        lawOf(x, "catch 99-day;drop 0;change 0;");
        // caught on 0, 10, .. 190: let off on 5, 15, .. 195, with 99, 89, .. 9, 0
        due("how many", x.edge(0, 1, 0, 1, -1), 11);
        for (int i = 0; i < 11; i++) {
            due("day " + i, x.edge(0, 1, 0, 1, 2 * i), 10 * i + 5);
            due("FUEL " + i, x.edge(0, 1, 0, 1, 2 * i + 1), Math.max(0, 99 - 10 * i));
        }
        due("one too many", x.edge(0, 1, 0, 1, 22), -7);
        within("what", v -> x.edge(0, 1, 0, 1, v), -1, 21, -7);
        due("a is b", x.edge(0, 0, 0, 1, -1), -5);
        due("a is b, and what", x.edge(1, 1, 0, 1, -2), -5);
        due("no world, and what", x.edge(0, 2, 0, 1, -2), -5);
        due("no day, and what", x.edge(0, 1, 20001, 1, 22), -5);
        due("not so many, and what", x.edge(0, 1, 0, 100, 22), -5);
        due("too many for the ship", x.edge(0, 1, 0, 10, -1), 0);
        due("of none", x.edge(0, 1, 0, 10, 0), -7);
        due("of none", x.edge(0, 1, 0, 10, 1), -7);
        // each day's FUEL is one less, for a hundred days
        NeverStop y = worlds(2);
        plain(y, 2, 9, 0, 1);
        plain(y, 2, 9, 1, 0);
        lawOf(y, "catch 99-day;drop 0;change 99;");
        due("how many there can be", y.edge(0, 1, 0, 1, -1), 100);
        due("the last day", y.edge(0, 1, 0, 1, 198), 100);
        due("the last FUEL", y.edge(0, 1, 0, 1, 199), 0);
        due("behind it", y.edge(0, 1, 0, 1, 200), -7);
    }

    private static void bears() {
        says(26, "The last of the days soon() tells, as nothing is out, and as each one ship is out; -1: if any is -1.");
        NeverStop x = worlds(2);
        due("no ships", x.bears(0, 1, 0, 1), -1);
        due("no ships, to itself", x.bears(0, 0, 9, 1), 9);
        plain(x, 10, 9, 0, 5);
        due("one ship", x.bears(0, 1, 0, 1), -1);
        due("one ship, to itself", x.bears(0, 0, 9, 1), 9);
        due("one ship, to itself, on day 0", x.bears(0, 0, 0, 1), 0);
        plain(x, 10, 9, 0, 7);
        due("two ships", x.bears(0, 1, 0, 1), 7);
        plain(x, 10, 9, 0, 6);
        due("three ships", x.bears(0, 1, 0, 1), 6);
        plain(x, 10, 9, 0, 5);
        due("two like ones", x.bears(0, 1, 0, 1), 5);
        due("too many for all", x.bears(0, 1, 0, 10), -1);
        // without ship 0 on the 200th day, and on the 201st
        NeverStop y = worlds(3);
        plain(y, 60, 9, 0, 1);
        plain(y, 60, 9, 59, -1, 58);
        plain(y, 60, 9, -1, 56, 57);
        due("on the 200th day as one is out", y.bears(0, 1, 37, 1), 236);
        due("soon, as nothing is out", y.soon(0, 1, 37, 1), 61);
        due("on the 201st day", y.bears(0, 1, 36, 1), -1);
        // the ninth ship alone goes there
        NeverStop z = worlds(2);
        for (int s = 0; s < 8; s++) {
            plain(z, 10, 9, 0);
        }
        plain(z, 10, 9, 0, 5);
        due("as the ninth is out", z.bears(0, 1, 0, 1), -1);
        z.loop(7, 1, 9, 0);
        due("but for the eighth", z.bears(0, 1, 0, 1), 9);
    }

    private static void needed() {
        says(27, "Ships (bits) for which soon() is -1 as that one is out.");
        NeverStop x = worlds(3);
        due("no ships", x.needed(0, 1, 0, 1), 0);
        for (int s = 0; s < 8; s++) {
            plain(x, 10, 9, 0);
        }
        due("no way, with each one", x.needed(0, 1, 0, 1), 255);
        plain(x, 10, 9, 0, 5);
        due("the ninth alone", x.needed(0, 1, 0, 1), 256);
        due("none to itself", x.needed(0, 0, 0, 1), 0);
        due("no way, with all", x.needed(0, 2, 0, 1), 511);
        x.loop(0, 1, 5, 0);
        due("two that go there", x.needed(0, 1, 0, 1), 0);
        x.loop(8, 2, 6, 0);
        due("two one behind the other", x.needed(0, 2, 0, 1), 256);
        NeverStop y = longWay();
        due("both", y.needed(0, 2, 37, 1), 3);
        plain(y, 60, 9, -1, 57, 56);
        due("the first alone", y.needed(0, 2, 37, 1), 1);
        due("the first alone, too late", y.needed(0, 2, 36, 1), 7);
        plain(y, 60, 9, 59, 59);
        due("not even the first", y.needed(0, 2, 37, 1), 0);
        due("all, too late", y.needed(0, 2, 36, 1), 15);
    }

    private static void judge() {
        says(28, "A TOLD WAY from a to b: the first act that is wrong; how many acts; -1: nothing is wrong. "
            + "-5; BAD: SHEET; -11; BAD: its size isn't by threes.");
        NeverStop x = toAndFro(2);
        row(x, 0, 2, 0, 0, 0, 1, 1, 1);
        due("nothing is wrong", x.judge(0, 1, 0, 1, 0), -1);
        due("the first act", x.judge(0, 1, 1, 1, 0), 0);
        x.cell(0, 3, 2);
        due("the second act", x.judge(0, 1, 0, 1, 0), 1);
        row(x, 0, 2, 0, 0, 0, 2, 1, 0);
        due("how many acts", x.judge(0, 1, 0, 1, 0), 2);
        row(x, 0, 2);
        due("no acts, to itself", x.judge(1, 1, 0, 1, 0), -1);
        due("no acts", x.judge(0, 1, 0, 1, 0), 0);
        within("SHEET", v -> v == 3 ? x.judge(0, 0, 0, 1, 0) : x.judge(0, 0, 0, 1, v), 0, 3, -2);
        due("missing", x.judge(0, 0, 0, 1, 1), -11);
        due("missing, the last", x.judge(0, 0, 0, 1, 3), -11);
        for (int size = 1; size <= 4; size++) {
            x.sheet(0, 0, size);
            due("size " + size, x.judge(1, 1, 0, 1, 0), size == 3 ? 0 : -2);
        }
        due("no world, no SHEET", x.judge(2, 0, 0, 1, 4), -5);
        due("no world, missing", x.judge(0, 2, 0, 1, 3), -5);
        due("no day, size", x.judge(0, 0, 20001, 1, 0), -5);
        due("not so many, size", x.judge(0, 0, 0, 0, 0), -5);
        due("wrong acts, size", x.judge(0, 1, 0, 1, 0), -2);
    }

    private static void toldFuel() {
        says(29, "FUEL of all acts of a TOLD WAY. What judge() refuses; STATE: something is wrong.");
        NeverStop x = toAndFro(2);
        x.loop(0, 0, 0, 2);
        x.loop(0, 1, 1, 3);
        x.loop(1, 1, 1, 4);
        row(x, 0, 2, 0, 0, 0, 1, 2, 1, 3, 1, 1);
        due("a catch, a change, a drop", x.toldFuel(0, 1, 0, 1, 0), 7 + 2 + 5);
        due("it ends elsewhere", x.toldFuel(0, 0, 0, 1, 0), -3);
        due("the first act is wrong", x.toldFuel(0, 1, 1, 1, 0), -3);
        x.cell(0, 6, 4);
        due("the last act is wrong", x.toldFuel(0, 1, 0, 1, 0), -3);
        row(x, 0, 2);
        due("no acts, to itself", x.toldFuel(0, 0, 0, 1, 0), 0);
        due("no acts", x.toldFuel(0, 1, 0, 1, 0), -3);
        within("SHEET", v -> v == 3 ? x.toldFuel(0, 0, 0, 1, 0) : x.toldFuel(0, 0, 0, 1, v), 0, 3, -2);
        due("missing", x.toldFuel(0, 1, 0, 1, 3), -11);
        x.sheet(0, 2, 4);
        due("size", x.toldFuel(0, 1, 0, 1, 0), -2);
        due("no world, no SHEET", x.toldFuel(2, 0, 0, 1, 4), -5);
        due("no world, missing", x.toldFuel(0, -1, 0, 1, 3), -5);
        due("no day, size", x.toldFuel(0, 0, -1, 1, 0), -5);
        due("not so many, size", x.toldFuel(0, 0, 0, 100, 0), -5);
        // thirteen acts of 99
        NeverStop y = toAndFro(2);
        lawOf(y, "catch 99;drop 99;change 99;");
        int[] acts = new int[39];
        for (int i = 0; i < 13; i++) {
            acts[3 * i] = i;
            acts[3 * i + 1] = i == 0 ? 0 : i == 12 ? 1 : 2;
            acts[3 * i + 2] = i == 12 ? 0 : i % 2;
        }
        row(y, 0, 2, acts);
        due("as much as can be", y.toldFuel(0, 0, 0, 1, 0), 13 * 99);
    }

    // ---- boats, trips

    private static void fewest() {
        says(30, "How many BOATS a world needs for all its CATCHES of a SHEET. "
            + "-5: no such world; BAD: SHEET; -11; BAD: its size isn't by twos, no world, no day.");
        NeverStop x = worlds(2);
        row(x, 0, 2);
        due("no CATCHES", x.fewest(0, 0), 0);
        row(x, 0, 2, 1, 5);
        due("none of its own", x.fewest(0, 0), 0);
        due("one", x.fewest(1, 0), 1);
        x.sheet(0, 2, 40);
        due("twenty on a day", x.fewest(0, 0), 20);
        x.port(0, 0, 0);
        due("whatever it has", x.fewest(0, 0), 20);
        for (int i = 0; i < 20; i++) {
            x.cell(0, 2 * i + 1, i);
        }
        due("twenty, one a day", x.fewest(0, 0), 1);
        x.port(0, 1, 19);
        due("READY 19: the first is back for the last", x.fewest(0, 0), 19);
        x.port(0, 1, 20);
        due("READY 20", x.fewest(0, 0), 20);
        within("world", v -> x.fewest(v, 0), 0, 1, -5);
        within("SHEET", v -> x.fewest(0, v == 3 ? 0 : v), 0, 3, -2);
        due("missing", x.fewest(0, 3), -11);
        due("no world, no SHEET", x.fewest(2, 4), -5);
        due("no world, missing", x.fewest(2, 3), -5);
        row(x, 1, 2, 0);
        due("size 1", x.fewest(0, 1), -2);
        due("no world, size 1", x.fewest(2, 1), -5);
        row(x, 1, 2, 0, 0, 2, 0);
        due("no such world among them", x.fewest(0, 1), -2);
        x.world(1, 1);
        due("it is there now", x.fewest(0, 1), 1);
        row(x, 1, 2, 0, 20000);
        due("the last day", x.fewest(0, 1), 1);
        row(x, 1, 2, 1, 20001);
        due("no day, of another world", x.fewest(0, 1), -2);
        row(x, 1, 2, 0, -1);
        due("a day below 0", x.fewest(0, 1), -2);
    }

    private static void lacks() {
        says(31, "The number (by twos, from 0) of the first CATCH of a SHEET, by days, then as they stand, "
            + "for which its world has no boat; -1: none. BAD: SHEET; -11; BAD as of fewest().");
        NeverStop x = worlds(2);
        row(x, 0, 2);
        due("no CATCHES", x.lacks(0), -1);
        row(x, 0, 2, 0, 5, 1, 5, 0, 6, 1, 6);
        due("none lacks", x.lacks(0), -1);
        row(x, 0, 2, 0, 5, 0, 5, 1, 4, 1, 4);
        due("by days", x.lacks(0), 3);
        row(x, 0, 2, 0, 5, 1, 5, 1, 5, 0, 5);
        due("then as they stand", x.lacks(0), 2);
        row(x, 0, 2, 0, 9, 1, 9, 1, 9, 0, 8);
        due("the earlier day has its boat", x.lacks(0), 2);
        x.port(0, 1, 2);
        due("till it is READY", x.lacks(0), 0);
        x.port(0, 0, 0);
        due("no boat at all", x.lacks(0), 3);
        x.port(0, 0, 9);
        x.sheet(0, 2, 20);
        due("the tenth of ten on a day", x.lacks(0), 9);
        x.sheet(0, 2, 18);
        due("nine of nine", x.lacks(0), -1);
        x.sheet(0, 2, 40);
        due("of twenty", x.lacks(0), 9);
        within("SHEET", v -> x.lacks(v == 3 ? 0 : v), 0, 3, -2);
        due("missing", x.lacks(3), -11);
        row(x, 1, 2, 0, 0, 0);
        due("size 3", x.lacks(1), -2);
        row(x, 1, 2, 0, 0, 0, 0, 2, 0);
        due("no such world", x.lacks(1), -2);
        row(x, 1, 2, 0, 0, 0, 0, 1, 20001);
        due("no day", x.lacks(1), -2);
        row(x, 1, 2, 1, 20000, 1, 20000);
        due("the last day", x.lacks(1), 1);
        NeverStop none = new NeverStop();
        none.sheet(0, 1, 0);
        due("no CATCHES, no worlds", none.lacks(0), -1);
        none.sheet(0, 1, 2);
        due("a CATCH, no worlds", none.lacks(0), -2);
    }

    private static void trip() {
        says(32, "A TRIP: its number. BAD (alike worlds, too); FULL.");
        NeverStop x = toAndFro(1);
        due("alike", x.trip(0, 0, 0, 1), -2);
        due("alike, the last", x.trip(1, 1, 0, 1), -2);
        due("from no world", x.trip(2, 0, 0, 1), -2);
        due("to no world", x.trip(0, 2, 0, 1), -2);
        due("alike, and none", x.trip(2, 2, 0, 1), -2);
        due("below 0", x.trip(-1, 0, 0, 1), -2);
        due("to below 0", x.trip(0, -1, 0, 1), -2);
        within("day", v -> toAndFro(1).trip(0, 1, v, 1), 0, 20000, -2);
        within("SO MANY", v -> toAndFro(1).trip(0, 1, 0, v), 1, 99, -2);
        due("nothing came", x.count(2), 0);
        for (int i = 0; i < 10; i++) {
            due("its number", x.trip(0, 1, 20000, 99), i);
        }
        due("FULL", x.trip(0, 1, 0, 1), -4);
        due("BAD, while it is FULL", x.trip(0, 0, 0, 1), -2);
        due("BAD, while it is FULL", x.trip(0, 1, 0, 100), -2);
        due("how many", x.count(2), 10);
    }

    private static void ride() {
        says(33, "RIDE of a TRIP: what 0 the ship, 1 the day on which it is caught, 2 on which they are let off; -1: none. "
            + "-5: no such TRIP; -7: what.");
        NeverStop x = worlds(2);
        due("no TRIPS", x.ride(0, 0), -5);
        x.trip(0, 1, 20000, 9);
        x.trip(1, 0, 0, 10);
        for (int what = 0; what < 3; what++) {
            due("no ships: " + what, x.ride(0, what), -1);
        }
        plain(x, 60, 8, 21, 20);
        plain(x, 60, 9, 21, 20);
        due("the ship", x.ride(0, 0), 1);
        due("caught", x.ride(0, 1), 20001);
        due("let off", x.ride(0, 2), 20060);
        for (int what = 0; what < 3; what++) {
            due("none has the ROOM: " + what, x.ride(1, what), -1);
        }
        within("TRIP", v -> x.ride(v, 0), 0, 1, -5);
        within("what", v -> x.ride(0, v), 0, 2, -7);
        due("no TRIP, no what", x.ride(2, 3), -5);
    }

    private static void aboard() {
        says(34, "How many people of some TRIPS (bits) are ABOARD a ship on a day by their RIDES. "
            + "-5: no such ship; -7: day, TRIPS.");
        NeverStop x = worlds(2);
        plain(x, 10, 99, 0, 5);
        plain(x, 10, 99, 5, 0);
        due("no TRIPS", x.aboard(0, 0, 0), 0);
        due("one of no TRIPS", x.aboard(0, 0, 1), -7);
        for (int i = 0; i < 10; i++) {
            x.trip(0, 1, 0, 90 + i);
        }
        due("none of them", x.aboard(0, 0, 0), 0);
        due("the first", x.aboard(0, 0, 1), 90);
        due("the last", x.aboard(0, 0, 512), 99);
        due("all, more than its ROOM", x.aboard(0, 4, 1023), 945);
        due("let off", x.aboard(0, 5, 1023), 0);
        due("aboard the other", x.aboard(1, 4, 1023), 0);
        x.loop(0, 0, -1, 0);
        due("aboard the other now", x.aboard(1, 5, 1023), 945);
        due("not aboard the first any more", x.aboard(0, 5, 1023), 0);
        within("TRIPS", v -> x.aboard(0, 0, v), 0, 1023, -7);
        within("day", v -> x.aboard(0, v, 0), 0, 20000, -7);
        within("ship", v -> x.aboard(v, 0, 0), 0, 1, -5);
        due("no ship, no day", x.aboard(2, -1, 0), -5);
        due("no ship, no TRIPS", x.aboard(2, 0, 1024), -5);
        NeverStop y = worlds(2);
        plain(y, 10, 9, 0, 5);
        y.trip(0, 1, 19991, 1);
        y.trip(0, 1, 20000, 2);
        due("on the last day", y.aboard(0, 20000, 3), 3);
        y.trip(0, 1, 0, 3);
        y.trip(0, 1, 0, 10);
        due("without a RIDE", y.aboard(0, 0, 12), 3);
        within("TRIPS of four", v -> y.aboard(0, 0, v), 0, 15, -7);
    }

    private static void book() {
        says(35, "Of some TRIPS (bits) the first one, for either reason, that has no RIDE (100 and it), "
            + "or on the day of whose catch more of them are ABOARD its ship than its ROOM; -1: none. BAD.");
        NeverStop x = worlds(3);
        due("of no TRIPS", x.book(0), -1);
        due("one of no TRIPS", x.book(1), -2);
        plain(x, 10, 6, 0, 5, 7);
        x.trip(0, 1, 0, 2);
        x.trip(0, 1, 0, 4);
        x.trip(0, 1, 0, 1);
        x.trip(0, 1, 0, 7);
        x.trip(1, 2, 0, 6);
        x.trip(0, 2, 0, 5);
        due("none of them", x.book(0), -1);
        due("just its ROOM", x.book(3), -1);
        due("one more", x.book(7), 0);
        due("without the first", x.book(6), -1);
        due("no RIDE", x.book(8), 103);
        due("no RIDE, behind", x.book(15), 0);
        due("no RIDE, ahead", x.book(8 + 16 + 32), 103);
        due("let off on the day of a catch", x.book(3 + 16), -1);
        due("aboard on the day of a catch", x.book(16 + 32), 4);
        due("that day alone", x.book(32), -1);
        due("both reasons, the first", x.book(16 + 32 + 8), 103);
        within("TRIPS", x::book, 0, 63, -2);
        NeverStop y = worlds(2);
        for (int i = 0; i < 10; i++) {
            y.trip(0, 1, 0, 1);
        }
        due("the last has none", y.book(512), 109);
        due("the first has none", y.book(1023), 100);
        within("all TRIPS", y::book, 0, 1023, -2);
    }

    private static void most() {
        says(36, "The TRIPS with which nothing is so by book(), with most people: "
            + "bits (what 0; of like ones the least), how many people (1). BAD.");
        NeverStop x = worlds(2);
        due("no TRIPS", x.most(0), 0);
        due("no TRIPS: people", x.most(1), 0);
        NeverStop one = worlds(2);
        plain(one, 10, 1, 0, 5);
        one.trip(0, 1, 0, 1);
        one.trip(0, 1, 0, 1);
        due("one person", one.most(0), 1);
        due("one person: people", one.most(1), 1);
        x.trip(0, 1, 0, 3);
        due("no RIDE", x.most(0), 0);
        due("no RIDE: people", x.most(1), 0);
        plain(x, 10, 6, 0, 5);
        due("one", x.most(0), 1);
        due("one: people", x.most(1), 3);
        x.trip(0, 1, 0, 3);
        due("just its ROOM", x.most(0), 3);
        x.trip(0, 1, 0, 6);
        due("of like ones the least", x.most(0), 3);
        due("like ones: people", x.most(1), 6);
        x.trip(0, 1, 0, 7);
        due("one that has no RIDE", x.most(0), 3);
        x.trip(0, 1, 0, 5);
        due("less people", x.most(0), 3);
        x.trip(1, 0, 0, 6);
        due("on the way back", x.most(0), 3 + 32);
        due("on the way back: people", x.most(1), 12);
        within("what", x::most, 0, 1, -2);
        NeverStop y = worlds(2);
        plain(y, 10, 99, 0, 5);
        for (int i = 0; i < 10; i++) {
            y.trip(0, 1, 10 * i, 99);
        }
        due("all", y.most(0), 1023);
        due("all: people", y.most(1), 990);
        NeverStop z = worlds(2);
        plain(z, 10, 9, 0, 5);
        for (int i = 0; i < 10; i++) {
            z.trip(0, 1, 0, i == 9 ? 9 : 10);
        }
        due("the last alone", z.most(0), 512);
    }

    private static void together() {
        says(37, "The ship whose ROOM is n or more that PASSES a first from d on, and PASSES b ever behind that; "
            + "of like ones the least: what 0 the day, 1 the ship; -1: none. -5 (a is b, what, too).");
        NeverStop x = worlds(3);
        due("no ships", x.together(0, 1, 0, 1, 0), -1);
        due("no ships: which", x.together(0, 1, 0, 1, 1), -1);
        plain(x, 10, 3, 4, 5);
        plain(x, 10, 4, 5, 4);
        plain(x, 10, 4, 5, 6);
        plain(x, 10, 99, 3);
        due("just its ROOM", x.together(0, 1, 0, 3, 1), 0);
        due("the day", x.together(0, 1, 0, 3, 0), 4);
        due("one more: of like ones the least", x.together(0, 1, 0, 4, 1), 1);
        due("the day of that", x.together(0, 1, 0, 4, 0), 5);
        due("too many", x.together(0, 1, 0, 5, 1), -1);
        due("on the day itself", x.together(0, 1, 4, 1, 0), 4);
        due("from the day behind it on", x.together(0, 1, 5, 1, 1), 1);
        due("a round later", x.together(0, 1, 6, 1, 0), 14);
        due("a round later: which", x.together(0, 1, 6, 1, 1), 0);
        due("none goes on to b", x.together(0, 2, 0, 1, 1), -1);
        due("none comes by a", x.together(2, 0, 0, 1, 0), -1);
        x.loop(3, 2, 3, 0);
        due("both worlds on a day", x.together(0, 2, 0, 99, 0), 3);
        due("from the last day on", x.together(0, 1, 20000, 4, 0), 20005);
        for (int s = 4; s < 8; s++) {
            plain(x, 10, 99, 2);
        }
        plain(x, 10, 99, 2, 2);
        due("the ninth", x.together(0, 1, 0, 99, 1), 8);
        due("the day of the ninth", x.together(0, 1, 0, 99, 0), 2);
        within("a", v -> x.together(v, v == 1 ? 0 : 1, 0, 1, 0), 0, 2, -5);
        within("b", v -> x.together(v == 0 ? 1 : 0, v, 0, 1, 0), 0, 2, -5);
        within("day", v -> x.together(0, 1, v, 1, 0), 0, 20000, -5);
        within("n", v -> x.together(0, 1, 0, v, 0), 1, 99, -5);
        within("what", v -> x.together(0, 1, 0, 1, v), 0, 1, -5);
        for (int w = 0; w < 3; w++) {
            due("a is b: " + w, x.together(w, w, 0, 1, 0), -5);
        }
    }

    private static void bread() {
        says(38, "The first day behind which BREAD of a ship with n (0 .. 999) ABOARD is below 0; -1: never. "
            + "-5: no such ship; -7: n.");
        NeverStop x = new NeverStop();
        due("no ships", x.bread(0, 0), -5);
        x.ship(0, 5, 0, 9);
        // 90 at first, 4 a day more
        due("none", x.bread(0, 0), -1);
        due("just what comes", x.bread(0, 4), -1);
        due("one more", x.bread(0, 5), 91);
        due("ten more: 90 is just enough for 9 days", x.bread(0, 14), 10);
        due("nothing left behind day 1", x.bread(0, 94), 2);
        due("below 0 behind day 1", x.bread(0, 95), 1);
        due("as many as can be", x.bread(0, 999), 1);
        x.ship(2, 5, 0, 99);
        // 1980 at first, 99 a day more
        due("of a GREAT one, just what comes", x.bread(1, 99), -1);
        due("of a GREAT one, one more", x.bread(1, 100), 1981);
        due("of a GREAT one, as many as can be", x.bread(1, 999), 3);
        x.ship(5, 5, 0, 1);
        due("without ROOM, none", x.bread(2, 0), -1);
        due("without ROOM, one", x.bread(2, 1), 1);
        within("n", v -> x.bread(0, v), 0, 999, -7);
        within("ship", v -> x.bread(v, 0), 0, 2, -5);
        due("no ship, no n", x.bread(3, 1000), -5);
    }

    private static void grow() {
        says(39, "The most (0 .. 999) with whom it isn't below 0 behind any of so many days (1 .. 9999). "
            + "-5: no such ship; -7: days.");
        NeverStop x = new NeverStop();
        due("no ships", x.grow(0, 1), -5);
        x.ship(0, 5, 0, 9);
        due("a day", x.grow(0, 1), 94);
        due("nine days", x.grow(0, 9), 14);
        due("ten days", x.grow(0, 10), 13);
        due("eleven days", x.grow(0, 11), 12);
        due("90 days", x.grow(0, 90), 5);
        due("91 days", x.grow(0, 91), 4);
        due("as many days as can be", x.grow(0, 9999), 4);
        x.ship(2, 5, 0, 99);
        due("999 at most", x.grow(1, 1), 999);
        due("999 at most, two days", x.grow(1, 2), 999);
        due("three days", x.grow(1, 3), 759);
        x.ship(2, 5, 0, 90);
        due("180 of ROOM, two days: 90 and 900", x.grow(2, 2), 990);
        x.ship(2, 5, 0, 91);
        due("182 of ROOM, two days: 91 and 910, 999 at most", x.grow(3, 2), 999);
        x.ship(0, 5, 0, 0);
        due("without ROOM", x.grow(4, 1), 0);
        due("without ROOM", x.grow(4, 9999), 0);
        within("days", v -> x.grow(0, v), 1, 9999, -7);
        within("ship", v -> x.grow(v, 1), 0, 4, -5);
        due("no ship, no days", x.grow(5, 0), -5);
    }

    private static void image() {
        says(40, "AN IMAGE is kept: how many ships.");
        NeverStop x = new NeverStop();
        due("of nothing", x.image(), 0);
        for (int s = 1; s <= 9; s++) {
            x.ship(0, 60, 0, 1);
            due("of " + s, x.image(), s);
        }
        x.turn(8, 59);
        x.image();
        x.turn(8, 1);
        due("again", x.image(), 9);
        x.turn(8, 2);
        x.back();
        due("the last one is kept", x.shipTold(8, 4), 1);
    }

    private static void back() {
        says(41, "All that it keeps is as in THE IMAGE: how many ships there are. STATE: there is none.");
        NeverStop x = worlds(2);
        due("there is none", x.back(), -3);
        x.ship(0, 60, 0, 1);
        due("there is none yet", x.back(), -3);
        x.turn(0, 5);
        x.image();
        due("at once", x.back(), 1);
        x.turn(0, 59);
        x.port(1, 0, 9);
        x.port(1, 1, 99);
        for (int i = 0; i < 10; i++) {
            x.trip(0, 1, 0, 1);
        }
        lawOf(x, "catch 1;drop 1;change 1;");
        x.ship(0, 60, 0, 1);
        due("ships there are", x.back(), 2);
        due("TURNED", x.shipTold(0, 4), 5);
        due("BOATS", x.port(1, 0, 0), 1);
        due("READY", x.port(1, 1, 1), 1);
        due("TRIPS", x.count(2), 0);
        due("a TRIP that was", x.ride(0, 0), -5);
        due("TRIPS by bits", x.book(1), -2);
        due("THE LAW", x.count(4), 0);
        due("again", x.back(), 2);
        due("BOATS again", x.port(1, 0, 0), 1);
        for (int i = 0; i < 10; i++) {
            due("TRIPS may come again", x.trip(1, 0, 0, 1), i);
        }
        due("as many as there can be", x.trip(1, 0, 0, 1), -4);
    }

    // ---- the host

    private static void sheet() {
        says(42, "A SHEET becomes a row of n of a sort, all 0, or missing (sort -1: n does not matter): 1. "
            + "BAD: SHEET, sort, n above 40; -14.");
        NeverStop x = worlds(2);
        within("SHEET", v -> x.sheet(v, 2, 1), 0, 3, -2);
        within("sort", v -> x.sheet(0, v, 1), -1, 2, -2);
        for (int sort = 0; sort <= 2; sort++) {
            due("none", x.sheet(0, sort, 0), 1);
            due("no place", x.cell(0, 0, 0), -12);
            due("40", x.sheet(0, sort, 40), 1);
            due("the last place", x.cell(0, 39, 1), 1);
            due("41", x.sheet(0, sort, 41), -2);
            due("more", x.sheet(0, sort, MAX), -2);
            due("below 0", x.sheet(0, sort, -1), -14);
            due("far below 0", x.sheet(0, sort, MIN), -14);
        }
        for (int n : new int[] {MIN, -1, 0, 40, 41, MAX}) {
            x.sheet(0, 2, 1);
            due("missing, whatever n is", x.sheet(0, -1, n), 1);
            due("missing", x.cell(0, 0, 0), -11);
        }
        due("no SHEET, n below 0", x.sheet(4, 2, -1), -2);
        due("no SHEET, missing", x.sheet(-1, -1, -1), -2);
        due("no sort, n below 0", x.sheet(0, 3, -1), -2);
        due("no sort, n below 0", x.sheet(0, -2, -1), -2);
        // all 0 again, in a shorter and in a longer row
        for (int size : new int[] {4, 8}) {
            row(x, 0, 2, 0, 1, 0, 1);
            due("a trip", x.tripsBy(0, 2, 0, 1), 1);
            x.sheet(0, 2, size);
            due("all 0: from 0 to 0, none of them", x.tripsBy(0, 2, 0, 1), 0);
            x.cell(0, 1, 1);
            due("none of them yet", x.tripsBy(0, 2, 0, 1), 0);
            x.cell(0, 3, 1);
            due("one of them", x.tripsBy(0, 2, 0, 1), 1);
        }
    }

    /** On which day a trip is that comes by a SHEET of a sort with a value for it: -1, if none comes. */
    private static int dayBy(int sort, int value) {
        NeverStop x = worlds(2);
        plain(x, 2, 9, 0, 1);
        plain(x, 2, 9, 1, 0);
        row(x, 0, sort, 0, 1, value, 1);
        return x.tripsBy(0, sort, 0, 1) == 1 ? x.ride(0, 1) : -1;
    }

    private static void cell() {
        says(43, "Number i of a SHEET becomes v (of bytes, shorts its lowest 8, 16 bits): 1. BAD: SHEET; -11; -12.");
        due("a byte", dayBy(0, 127), 127);
        due("256 is 0", dayBy(0, 256), 0);
        due("383 is 127", dayBy(0, 383), 127);
        due("65536 is 0", dayBy(0, 65536), 0);
        due("-256 is 0", dayBy(0, -256), 0);
        due("-129 is 127", dayBy(0, -129), 127);
        due("a short", dayBy(1, 20000), 20000);
        due("too late a day", dayBy(1, 20001), -1);
        due("a short's last", dayBy(1, 32767), -1);
        due("65535 is -1", dayBy(1, 65535), -1);
        due("65536 is 0", dayBy(1, 65536), 0);
        due("85536 is 20000", dayBy(1, 85536), 20000);
        due("-65536 is 0", dayBy(1, -65536), 0);
        due("-45536 is 20000", dayBy(1, -45536), 20000);
        due("256 is 256", dayBy(1, 256), 256);
        due("an int", dayBy(2, 20000), 20000);
        due("an int that would be 0", dayBy(2, 65536), -1);
        due("an int below 0", dayBy(2, -65536), -1);
        NeverStop x = worlds(2);
        x.sheet(3, 1, 40);
        within("place", v -> x.cell(3, v, 0), 0, 39, -12);
        x.sheet(3, 1, 1);
        within("place of one", v -> x.cell(3, v, 0), 0, 0, -12);
        x.sheet(3, 1, 0);
        due("place of none", x.cell(3, 0, 0), -12);
        within("SHEET", v -> v == 0 ? 1 : x.cell(v, v == 3 ? -1 : 0, 0) == -12 ? 1 : x.cell(v, 0, 0), 0, 3, -2);
        due("no SHEET, no place", x.cell(4, -1, 0), -2);
        due("missing, no place", x.cell(0, -1, 0), -11);
        due("missing, the last int", x.cell(0, MAX, 0), -11);
    }

    /** The numbers 0 1 .. 5 of ints, as SHEET 0; six 9s as SHEET 1. */
    private static NeverStop twoRows() {
        NeverStop x = worlds(4);
        row(x, 0, 2, 0, 1, 2, 3, 4, 5);
        row(x, 1, 2, 9, 9, 9, 9, 9, 9);
        return x;
    }

    /** A SHEET of ints, number by number, as days of trips by it. */
    private static void rowIs(NeverStop x, int s, int... want) {
        plain(x, 2, 9, 0, 1);
        plain(x, 2, 9, 1, 0);
        for (int i = 0; i < want.length; i++) {
            row(x, 3, 2, 0, 1, 0, 1);
            x.copy(s, i, 3, 2, 1);
            x.image();
            x.tripsBy(3, 2, 0, 1);
            due("number " + i + " of " + s, x.ride(x.count(2) - 1, 1), want[i]);
            x.back();
        }
        due("it has no more", x.cell(s, want.length, 0), -12);
    }

    private static void copy() {
        says(44, "n numbers of a SHEET, from i on, come to another one's (or its own) place j (as they were): n.");
        NeverStop x = twoRows();
        due("all", x.copy(0, 0, 1, 0, 6), 6);
        rowIs(x, 1, 0, 1, 2, 3, 4, 5);
        x = twoRows();
        due("one", x.copy(0, 5, 1, 0, 1), 1);
        rowIs(x, 1, 5, 9, 9, 9, 9, 9);
        x = twoRows();
        due("none", x.copy(0, 0, 1, 0, 0), 0);
        due("none from behind the last", x.copy(0, 6, 1, 6, 0), 0);
        rowIs(x, 1, 9, 9, 9, 9, 9, 9);
        x = twoRows();
        due("some", x.copy(0, 1, 1, 3, 3), 3);
        rowIs(x, 1, 9, 9, 9, 1, 2, 3);
        rowIs(x, 0, 0, 1, 2, 3, 4, 5);
        x = twoRows();
        due("its own, up", x.copy(0, 0, 0, 1, 5), 5);
        rowIs(x, 0, 0, 0, 1, 2, 3, 4);
        x = twoRows();
        due("its own, down", x.copy(0, 2, 0, 0, 4), 4);
        rowIs(x, 0, 2, 3, 4, 5, 4, 5);
        x = twoRows();
        due("its own, to itself", x.copy(0, 0, 0, 0, 6), 6);
        rowIs(x, 0, 0, 1, 2, 3, 4, 5);
    }

    private static void copyRefusals() {
        says(44, "BAD: SHEETS; -11; -13: unlike sorts; -12 (n below 0, too).");
        NeverStop x = twoRows();
        x.sheet(2, 1, 40);
        within("SHEET", v -> x.copy(v == 3 ? 0 : v, 0, v == 2 ? 2 : 1, 0, 0), 0, 3, -2);
        within("other SHEET", v -> x.copy(v == 2 ? 2 : 0, 0, v == 3 ? 0 : v, 0, 0), 0, 3, -2);
        due("missing", x.copy(3, 0, 0, 0, 0), -11);
        due("the other is missing", x.copy(0, 0, 3, 0, 0), -11);
        due("both are", x.copy(3, 0, 3, 0, -1), -11);
        due("ints to shorts", x.copy(0, 0, 2, 0, 0), -13);
        due("shorts to ints", x.copy(2, 0, 0, 0, 0), -13);
        within("i for one", v -> x.copy(0, v, 1, 0, 1), 0, 5, -12);
        within("j for one", v -> x.copy(0, 0, 1, v, 1), 0, 5, -12);
        within("i for none", v -> x.copy(0, v, 1, 0, 0), 0, 6, -12);
        within("j for none", v -> x.copy(0, 0, 1, v, 0), 0, 6, -12);
        within("n", v -> x.copy(0, 0, 1, 0, v), 0, 6, -12);
        within("n from 2 on", v -> x.copy(0, 2, 1, 0, v), 0, 4, -12);
        within("n to 4 on", v -> x.copy(0, 0, 1, 4, v), 0, 2, -12);
        due("sums past the last int", x.copy(0, 1, 1, 1, MAX), -12);
        due("sums past the last int", x.copy(0, MAX, 1, MAX, MAX), -12);
        due("sums below 0", x.copy(0, MAX, 1, 0, MIN), -12);
        due("no SHEET, missing", x.copy(4, 0, 3, 0, 0), -2);
        due("missing, no SHEET", x.copy(3, 0, 4, 0, 0), -2);
        due("missing, of another sort", x.copy(3, 0, 2, 99, -1), -11);
        due("of another sort, outside", x.copy(0, 99, 2, 99, -1), -13);
    }

    private static void tripsBy() {
        says(45, "TRIPS by a SHEET of a sort: from a place on, four by four (as of trip()), n of them (0 .. 10; 0: none is asked): "
            + "how many came (others are left out).");
        for (int sort = 0; sort <= 2; sort++) {
            NeverStop x = toAndFro(1);
            x.sheet(0, sort, 40);
            for (int k = 0; k < 10; k++) {
                x.cell(0, 4 * k + 1, 1);
                x.cell(0, 4 * k + 2, k);
                x.cell(0, 4 * k + 3, k + 1);
            }
            due("none is asked", x.tripsBy(0, sort, 0, 0), 0);
            due("none is asked, of any place", x.tripsBy(0, sort, 40, 0), 0);
            due("none is asked, of no place", x.tripsBy(0, sort, -1, 0) + x.tripsBy(0, sort, MAX, 0), 0);
            due("nothing came", x.count(2), 0);
            due("one", x.tripsBy(0, sort, 0, 1), 1);
            due("the last one", x.tripsBy(0, sort, 36, 1), 1);
            due("ten have no RIDE", x.ride(1, 1), -1);
            due("ten, of which eight come", x.tripsBy(0, sort, 0, 10), 8);
            due("how many", x.count(2), 10);
            due("the eighth of them", x.aboard(0, 8, 512), 8);
            due("none comes, as there are ten", x.tripsBy(0, sort, 0, 10), 0);
            NeverStop y = toAndFro(1);
            row(y, 0, sort, 0, 0, 0, 1, 0, 1, 0, 100, 0, 1, 0, 99, 2, 1, 0, 1);
            due("left out: alike, too many, no world", y.tripsBy(0, sort, 0, 4), 1);
            due("it is the third", y.count(2), 1);
            due("from place 8 on", y.tripsBy(0, sort, 8, 1), 1);
            due("from place 5 on: 1, 0, 100, 0", y.tripsBy(0, sort, 5, 1), 0);
        }
    }

    private static void tripsByRefusals() {
        says(45, "BAD: SHEET, sort, n; -11; -13; -12: what stood ahead came.");
        NeverStop x = toAndFro(1);
        row(x, 0, 2, 0, 1, 0, 1, 0, 1, 0, 2, 0);
        within("n", v -> toAndFro(1).tripsBy(0, 0, 0, v) == -11 ? 0 : toAndFro(1).tripsBy(0, 0, 0, v), 0, 10, -2);
        within("SHEET", v -> x.tripsBy(v, 2, 0, 0) == -11 ? 0 : x.tripsBy(v, 2, 0, 0), 0, 3, -2);
        within("sort", v -> x.tripsBy(0, v, 0, 0) == -13 ? 0 : x.tripsBy(0, v, 0, 0), 0, 2, -2);
        due("missing is no sort", x.tripsBy(1, -1, 0, 1), -2);
        due("missing", x.tripsBy(3, 2, -1, 1), -11);
        due("bytes asked, ints are there", x.tripsBy(0, 0, -1, 1), -13);
        due("shorts asked, ints are there", x.tripsBy(0, 1, -1, 1), -13);
        due("ahead", x.tripsBy(0, 2, -1, 1), -12);
        due("four ahead", x.tripsBy(0, 2, -4, 2), -12);
        due("far ahead", x.tripsBy(0, 2, MIN, 10), -12);
        due("behind", x.tripsBy(0, 2, 9, 1), -12);
        due("its last number is outside", x.tripsBy(0, 2, 6, 1), -12);
        due("far behind", x.tripsBy(0, 2, MAX, 10), -12);
        due("a sum past the last int", x.tripsBy(0, 2, MAX - 3, 2), -12);
        due("nothing came", x.count(2), 0);
        due("the last place: 0, 2, 0 and 1 ahead", x.tripsBy(0, 2, 5, 1), 0);
        due("two stood ahead", x.tripsBy(0, 2, 0, 3), -12);
        due("they came", x.count(2), 2);
        due("none stood ahead that comes", x.tripsBy(0, 2, 5, 2), -12);
        due("none came", x.count(2), 2);
        for (int i = 0; i < 4; i++) {
            x.tripsBy(0, 2, 0, 2);
        }
        due("all there can be", x.count(2), 10);
        due("outside, while there are ten", x.tripsBy(0, 2, 0, 3), -12);
        due("no SHEET, no sort, no n", x.tripsBy(4, 3, 0, 11), -2);
        due("missing, no n", x.tripsBy(3, 2, 0, 11), -2);
        due("another sort, no n", x.tripsBy(0, 1, 0, -1), -2);
        due("by nothing", x.sheet(0, 2, 0), 1);
        due("of no numbers", x.tripsBy(0, 2, 0, 1), -12);
    }

    private static void taken() {
        says(46, "What lies at place i: 0 .. 3 worlds, 4 .. 12 ships, taken for 0 .. 5 a ship of that KIND "
            + "(also of one that is one): its number; 6 a world: its BOATS. BAD: kind; -12: i; -11: nothing lies there; -13.");
        NeverStop x = new NeverStop();
        for (int w = 0; w < 4; w++) {
            due("ahead of it", x.taken(w, 6), -11);
            x.world(9 - w, 1);
            due("a world", x.taken(w, 6), 9 - w);
        }
        x.port(3, 0, 0);
        due("its BOATS now", x.taken(3, 6), 0);
        // by rows: what a ship of that KIND may be taken for
        String[] is = {"ynnnnn", "yynnnn", "ynynnn", "ynnynn", "ynynyn", "ynnyny"};
        for (int s = 0; s < 9; s++) {
            due("ahead of it", x.taken(4 + s, 0), -11);
            int kind = s % 6;
            x.ship(kind, 5, 0, 1);
            for (int as = 0; as <= 5; as++) {
                due("KIND " + kind + " taken for " + as, x.taken(4 + s, as), is[kind].charAt(as) == 'y' ? s : -13);
            }
            due("KIND " + kind + " taken for a world", x.taken(4 + s, 6), -13);
        }
        for (int as = 0; as <= 5; as++) {
            due("a world taken for " + as, x.taken(0, as), -13);
            due("the last world taken for " + as, x.taken(3, as), -13);
        }
        within("kind", v -> x.taken(v == 6 ? 0 : 4, v), 0, 6, -2);
        within("place", v -> x.taken(v, v < 4 ? 6 : 0), 0, 12, -12);
        due("no kind, no place", x.taken(13, 7), -2);
        NeverStop none = new NeverStop();
        due("no place, nothing there", none.taken(13, 0), -12);
        due("nothing there, for another KIND", none.taken(0, 0), -11);
        due("nothing there, for a world", none.taken(4, 6), -11);
    }
}
