/** For each promise of the document answers worked out by hand: ordinary ones, its edges, its refusals. */
public final class PromiseTest extends Asks {
    private static void due(int promise, String call, long got, long want) {
        due("promise " + promise + ": " + call, got, want);
    }

    public static void main(String[] args) {
        newObject();
        worldsAndPorts();
        ships();
        loopsAndTurns();
        told();
        counts();
        passings();
        oftenAndNext();
        meetings();
        missing();
        waiting();
        choosing();
        feeding();
        texts();
        faults();
        shorterTexts();
        opens();
        forcing();
        fuels();
        soonest();
        spans();
        reaching();
        leastFuel();
        edges();
        bearing();
        judging();
        judgingWrongActs();
        changesAtWorlds();
        boats();
        lacking();
        trips();
        rides();
        aboard();
        booking();
        mostPeople();
        together();
        bread();
        images();
        sheets();
        cellsBySort();
        copies();
        tripsBySheet();
        taken();
        end();
    }

    private static void newObject() {
        NeverStop x = new NeverStop();
        int[] want = {0, 0, 0, 1, 0, 0};
        for (int what = 0; what < 6; what++) {
            due(1, "count(" + what + ")", x.count(what), want[what]);
        }
        due(1, "back()", x.back(), NeverStop.STATE);
        for (int s = 0; s < 4; s++) {
            due(1, "cell of a missing sheet", x.cell(s, 0, 0), -11);
        }
        due(1, "taken(0, 6)", x.taken(0, 6), -11);
        due(1, "taken(4, 0)", x.taken(4, 0), -11);
    }

    private static void worldsAndPorts() {
        NeverStop x = new NeverStop();
        due(2, "world(-1, 1)", x.world(-1, 1), -2);
        due(2, "world(10, 1)", x.world(10, 1), -2);
        due(2, "world(0, 0)", x.world(0, 0), -2);
        due(2, "world(0, 100)", x.world(0, 100), -2);
        due(2, "count(0)", x.count(0), 0);
        due(2, "world(0, 1)", x.world(0, 1), 0);
        due(2, "world(9, 99)", x.world(9, 99), 1);
        due(2, "world(3, 4)", x.world(3, 4), 2);
        due(3, "port(3, 0, 1)", x.port(3, 0, 1), -5);
        due(2, "world(1, 1)", x.world(1, 1), 3);
        due(2, "world(1, 1)", x.world(1, 1), -4);
        due(2, "world(10, 1)", x.world(10, 1), -2);
        due(2, "count(0)", x.count(0), 4);

        due(3, "port(1, 0, 0)", x.port(1, 0, 0), 9);
        due(3, "port(1, 0, 9)", x.port(1, 0, 9), 0);
        due(3, "port(1, 1, 1)", x.port(1, 1, 1), 99);
        due(3, "port(1, 1, 99)", x.port(1, 1, 99), 1);
        due(3, "port(1, 0, 10)", x.port(1, 0, 10), -7);
        due(3, "port(1, 0, -1)", x.port(1, 0, -1), -7);
        due(3, "port(1, 1, 0)", x.port(1, 1, 0), -7);
        due(3, "port(1, 1, 100)", x.port(1, 1, 100), -7);
        due(3, "port(1, 2, 1)", x.port(1, 2, 1), -7);
        due(3, "port(1, -1, 1)", x.port(1, -1, 1), -7);
        due(3, "port(-1, 9, 99)", x.port(-1, 9, 99), -5);
        due(3, "port(1, 0, 5)", x.port(1, 0, 5), 9);
        due(3, "port(1, 1, 5)", x.port(1, 1, 5), 99);
        due(3, "port(2, 0, 5)", x.port(2, 0, 5), 3);
    }

    private static void ships() {
        NeverStop x = new NeverStop();
        due(4, "ship(-1, 5, 0, 0)", x.ship(-1, 5, 0, 0), -2);
        due(4, "ship(6, 5, 0, 0)", x.ship(6, 5, 0, 0), -2);
        due(4, "ship(0, 1, 0, 0)", x.ship(0, 1, 0, 0), -2);
        due(4, "ship(0, 61, 0, 0)", x.ship(0, 61, 0, 0), -2);
        due(4, "ship(0, 5, -1, 0)", x.ship(0, 5, -1, 0), -2);
        due(4, "ship(0, 5, 30, 0)", x.ship(0, 5, 30, 0), -2);
        due(4, "ship(0, 5, 0, -1)", x.ship(0, 5, 0, -1), -2);
        due(4, "ship(0, 5, 0, 100)", x.ship(0, 5, 0, 100), -2);
        due(4, "count(1)", x.count(1), 0);
        due(4, "ship(0, 2, 0, 0)", x.ship(0, 2, 0, 0), 0);
        due(4, "ship(5, 60, 29, 99)", x.ship(5, 60, 29, 99), 1);
        for (int s = 2; s < 9; s++) {
            due(4, "ship", x.ship(s % 6, 10, 3, 4), s);
        }
        due(4, "ship(0, 5, 0, 0)", x.ship(0, 5, 0, 0), -4);
        due(4, "ship(0, 1, 0, 0)", x.ship(0, 1, 0, 0), -2);
        due(4, "count(1)", x.count(1), 9);
    }

    private static void loopsAndTurns() {
        NeverStop x = new NeverStop();
        x.world(1, 1);
        x.ship(0, 6, 0, 5);
        due(5, "loop(0, 0, 5, 9)", x.loop(0, 0, 5, 9), -1);
        due(5, "loop(0, 0, 6, 0)", x.loop(0, 0, 6, 0), -2);
        due(5, "loop(0, 0, -2, 0)", x.loop(0, 0, -2, 0), -2);
        due(5, "loop(0, 0, 0, 10)", x.loop(0, 0, 0, 10), -2);
        due(5, "loop(0, 0, 0, -1)", x.loop(0, 0, 0, -1), -2);
        due(5, "loop(0, 1, 99, 99)", x.loop(0, 1, 99, 99), -7);
        due(5, "loop(0, -1, 0, 0)", x.loop(0, -1, 0, 0), -7);
        due(5, "loop(1, 9, 99, 99)", x.loop(1, 9, 99, 99), -5);
        due(5, "loop(-1, 0, 0, 0)", x.loop(-1, 0, 0, 0), -5);
        due(5, "shipTold(0, 5)", x.shipTold(0, 5), 5);
        due(5, "shipTold(0, 9)", x.shipTold(0, 9), 9);
        due(5, "loop(0, 0, -1, 3)", x.loop(0, 0, -1, 3), 5);
        due(5, "loop(0, 0, 0, 4)", x.loop(0, 0, 0, 4), -1);
        due(5, "passes(0, 6)", x.passes(0, 6), 1);

        due(6, "turn(0, 5)", x.turn(0, 5), 0);
        due(6, "turn(0, 6)", x.turn(0, 6), -7);
        due(6, "turn(0, -1)", x.turn(0, -1), -7);
        due(6, "turn(1, 0)", x.turn(1, 0), -5);
        due(6, "turn(-1, 9)", x.turn(-1, 9), -5);
        due(6, "passes(0, 5)", x.passes(0, 5), 1);
        due(6, "passes(0, 6)", x.passes(0, 6), 0);
        due(6, "turn(0, 0)", x.turn(0, 0), 5);
        due(6, "turn(0, 0)", x.turn(0, 0), 0);
    }

    private static void told() {
        NeverStop x = new NeverStop();
        x.world(1, 1);
        x.world(1, 1);
        int[] room = {7, 7, 14, 7, 14, 6};
        int[] quick = {9, 4, 9, 9, 9, 12};
        for (int kind = 0; kind < 6; kind++) {
            x.ship(kind, 20 + kind, 13, 7);
            x.loop(kind, 1, 11, 9);
            x.turn(kind, 3);
            int[] want = {kind, 20 + kind, 13, room[kind], 3, -1, 11, -1, -1, 0, quick[kind], 0, 0};
            if (kind == 5) {
                want[9] = 3;
                want[11] = 3;
                want[12] = 3;
            }
            for (int what = 0; what < 13; what++) {
                due(7, "shipTold(" + kind + ", " + what + ")", x.shipTold(kind, what), want[what]);
            }
        }
        due(7, "shipTold(0, 13)", x.shipTold(0, 13), -7);
        due(7, "shipTold(0, -1)", x.shipTold(0, -1), -7);
        due(7, "shipTold(6, 99)", x.shipTold(6, 99), -5);
        due(7, "shipTold(-1, 0)", x.shipTold(-1, 0), -5);
        x.ship(5, 9, 9, 0);
        due(7, "room of a breather that has none", x.shipTold(6, 3), 0);
        due(7, "quick where it never was", x.shipTold(6, 12), 9);
    }

    private static void counts() {
        NeverStop x = new NeverStop();
        x.world(1, 1);
        x.world(1, 1);
        x.ship(0, 5, 0, 5);
        x.trip(0, 1, 0, 1);
        x.trip(1, 0, 0, 1);
        x.trip(1, 0, 0, 1);
        textOf(x, "catch 1;drop 1;change 1;");
        textOf(x, "catch 1;drop 1;change 1;");
        textOf(x, "catch 1;drop 1;change 1;");
        x.force(2);
        x.feed(0, 5);
        int[] want = {2, 1, 3, 4, 2, 5};
        for (int what = 0; what < 6; what++) {
            due(8, "count(" + what + ")", x.count(what), want[what]);
        }
        due(8, "count(6)", x.count(6), -2);
        due(8, "count(-1)", x.count(-1), -2);
    }

    /** Ships of each KIND that pass world 0 on phase 0 and world 1 on phase 4, of rounds of 5. */
    private static NeverStop kinds() {
        NeverStop x = new NeverStop();
        x.world(1, 1);
        x.world(1, 1);
        for (int kind = 0; kind < 6; kind++) {
            x.ship(kind, 5, kind == 4 ? 5 : 2, 4);
            x.loop(kind, 0, 0, 1);
            x.loop(kind, 1, 4, 1);
        }
        return x;
    }

    private static void passings() {
        NeverStop x = kinds();
        int[] plain = {1, 0, 0, 0, 2, 1, 0, 0, 0, 2, 1};
        int[] turner = {1, 0, 0, 0, 2, 0, 2, 1, 0, 0, 1};
        int[] shy = {1, 0, 0, 0, 0, 1, 0, 0, 0, 0, 1};
        for (int d = 0; d < plain.length; d++) {
            for (int s = 0; s < 3; s++) {
                due(9, "passes(" + s + ", " + d + ")", x.passes(s, d), plain[d]);
            }
            due(9, "passes(3, " + d + ")", x.passes(3, d), turner[d]);
            due(9, "passes(4, " + d + ")", x.passes(4, d), shy[d]);
            due(9, "passes(5, " + d + ")", x.passes(5, d), turner[d]);
        }
        due(9, "passes(0, 20000)", x.passes(0, 20000), 1);
        due(9, "passes(0, 20001)", x.passes(0, 20001), -7);
        due(9, "passes(0, -1)", x.passes(0, -1), -7);
        due(9, "passes(6, -1)", x.passes(6, -1), -5);
        due(9, "passes(-1, 0)", x.passes(-1, 0), -5);

        due(10, "here(0, 0)", x.here(0, 0), 63);
        due(10, "here(1, 0)", x.here(1, 0), 0);
        due(10, "here(1, 4)", x.here(1, 4), 47);
        due(10, "here(0, 5)", x.here(0, 5), 23);
        due(10, "here(0, 7)", x.here(0, 7), 40);
        due(10, "here(1, 6)", x.here(1, 6), 40);
        due(10, "here(0, 20000)", x.here(0, 20000), 63);
        due(10, "here(0, 20001)", x.here(0, 20001), -7);
        due(10, "here(0, -1)", x.here(0, -1), -7);
        due(10, "here(2, -1)", x.here(2, -1), -5);
        due(10, "here(-1, 0)", x.here(-1, 0), -5);

        // TURNED and LATER go round together: (4 and 3 and 2) modulo 5 is 4 again
        x.turn(3, 3);
        due(9, "passes(3, 2)", x.passes(3, 2), 2);
        due(9, "passes(3, 9)", x.passes(3, 9), 2);
        due(9, "passes(3, 5)", x.passes(3, 5), 1);
        x.ship(3, 3, 29, 1);
        x.loop(6, 0, 2, 0);
        due(9, "passes(6, 4)", x.passes(6, 4), 1);
        due(9, "passes(6, 5)", x.passes(6, 5), 0);
    }

    private static void oftenAndNext() {
        NeverStop x = new NeverStop();
        x.world(1, 1);
        x.world(1, 1);
        x.ship(0, 6, 0, 1);
        x.loop(0, 0, 0, 0);
        x.ship(3, 5, 2, 1);
        x.loop(1, 0, 4, 0);
        x.ship(4, 5, 0, 1);
        x.loop(2, 0, 4, 0);
        due(11, "often(0, 0, 0, 0)", x.often(0, 0, 0, 0), 0);
        due(11, "often(0, 0, 0, 1)", x.often(0, 0, 0, 1), 1);
        due(11, "often(0, 0, 0, 6)", x.often(0, 0, 0, 6), 1);
        due(11, "often(0, 0, 0, 7)", x.often(0, 0, 0, 7), 2);
        due(11, "often(0, 0, 1, 5)", x.often(0, 0, 1, 5), 0);
        due(11, "often(0, 0, 20000, 4000)", x.often(0, 0, 20000, 4000), 666);
        due(11, "often(1, 0, 4, 3)", x.often(1, 0, 4, 3), 2);
        due(11, "often(1, 0, 7, 7)", x.often(1, 0, 7, 7), 0);
        due(11, "often(1, 0, 0, 20)", x.often(1, 0, 0, 20), 4);
        due(11, "often(2, 0, 0, 4000)", x.often(2, 0, 0, 4000), 0);
        due(11, "often(0, 1, 0, 4000)", x.often(0, 1, 0, 4000), 0);
        due(11, "often(0, 0, 0, 4001)", x.often(0, 0, 0, 4001), -7);
        due(11, "often(0, 0, 0, -1)", x.often(0, 0, 0, -1), -7);
        due(11, "often(0, 0, 20001, 1)", x.often(0, 0, 20001, 1), -7);
        due(11, "often(0, 0, -1, 1)", x.often(0, 0, -1, 1), -7);
        due(11, "often(3, 0, -1, 1)", x.often(3, 0, -1, 1), -5);
        due(11, "often(0, 2, 0, -1)", x.often(0, 2, 0, -1), -5);

        due(12, "next(0, 0, 0)", x.next(0, 0, 0), 0);
        due(12, "next(0, 0, 1)", x.next(0, 0, 1), 6);
        due(12, "next(0, 0, 6)", x.next(0, 0, 6), 6);
        due(12, "next(0, 0, 20000)", x.next(0, 0, 20000), 20004);
        due(12, "next(1, 0, 5)", x.next(1, 0, 5), 6);
        due(12, "next(1, 0, 7)", x.next(1, 0, 7), 14);
        due(12, "next(2, 0, 0)", x.next(2, 0, 0), -1);
        due(12, "next(0, 1, 0)", x.next(0, 1, 0), -1);
        due(12, "next(0, 0, 20001)", x.next(0, 0, 20001), -7);
        due(12, "next(0, 0, -1)", x.next(0, 0, -1), -7);
        due(12, "next(3, 0, -1)", x.next(3, 0, -1), -5);
        due(12, "next(0, 2, -1)", x.next(0, 2, -1), -5);
    }

    private static void meetings() {
        NeverStop x = new NeverStop();
        x.world(1, 1);
        x.world(1, 1);
        due(14, "seldom of no ships", x.seldom(0, 0), -1);
        x.ship(0, 4, 0, 1);
        x.loop(0, 0, 1, 0);
        x.ship(0, 6, 0, 1);
        x.loop(1, 0, 3, 0);
        due(13, "meets(0, 1, 0, 0)", x.meets(0, 1, 0, 0), 9);
        due(13, "meets(1, 0, 0, 9)", x.meets(1, 0, 0, 9), 9);
        due(13, "meets(0, 1, 0, 10)", x.meets(0, 1, 0, 10), 21);
        due(13, "meets(0, 1, 0, 20000)", x.meets(0, 1, 0, 20000), 20001);
        due(13, "meets(0, 1, 1, 0)", x.meets(0, 1, 1, 0), -1);
        x.turn(1, 1);
        due(13, "meets(0, 1, 0, 0)", x.meets(0, 1, 0, 0), -1);
        due(14, "seldom(0, 0)", x.seldom(0, 0), -1);
        due(14, "seldom(0, 1)", x.seldom(0, 1), -1);
        x.turn(1, 0);
        due(13, "meets(0, 0, 0, 0)", x.meets(0, 0, 0, 0), -5);
        due(13, "meets(0, 2, 0, 0)", x.meets(0, 2, 0, 0), -5);
        due(13, "meets(-1, 1, 0, 0)", x.meets(-1, 1, 0, 0), -5);
        due(13, "meets(0, 1, 2, -1)", x.meets(0, 1, 2, -1), -5);
        due(13, "meets(0, 1, 0, -1)", x.meets(0, 1, 0, -1), -7);
        due(13, "meets(0, 1, 0, 20001)", x.meets(0, 1, 0, 20001), -7);
        due(14, "seldom(0, 0)", x.seldom(0, 0), 1);
        due(14, "seldom(0, 1)", x.seldom(0, 1), 12);
        x.ship(0, 9, 0, 1);
        x.loop(2, 0, 0, 0);
        x.ship(0, 9, 0, 1);
        x.loop(3, 0, 0, 0);
        due(14, "seldom(0, 0): the first of like ones", x.seldom(0, 0), 2);
        due(14, "seldom(0, 1)", x.seldom(0, 1), 36);
        due(14, "seldom(1, 0)", x.seldom(1, 0), -1);
        due(14, "seldom(2, 9)", x.seldom(2, 9), -5);
        due(14, "seldom(0, 2)", x.seldom(0, 2), -7);
        due(14, "seldom(0, -1)", x.seldom(0, -1), -7);
        // turners alike meet on 4, 6, 14, ..: the next one behind the first is 2 days later
        x.ship(3, 5, 2, 1);
        x.loop(4, 1, 4, 0);
        x.ship(3, 5, 2, 1);
        x.loop(5, 1, 4, 0);
        due(14, "seldom(1, 0)", x.seldom(1, 0), 45);
        due(14, "seldom(1, 1)", x.seldom(1, 1), 2);
        due(13, "meets(4, 5, 1, 7)", x.meets(4, 5, 1, 7), 14);
        // on 4 and 5: the very next day
        NeverStop y = new NeverStop();
        y.world(1, 1);
        for (int s = 0; s < 2; s++) {
            y.ship(3, 5, 1, 1);
            y.loop(s, 0, 4, 0);
        }
        due(14, "seldom of the very next day", y.seldom(0, 1), 1);
        // 59 and 60 days: all rounds of both have to be gone through
        x.ship(0, 59, 0, 1);
        x.loop(6, 1, 58, 0);
        x.ship(0, 60, 0, 1);
        x.loop(7, 1, 59, 0);
        due(13, "meets(6, 7, 1, 0)", x.meets(6, 7, 1, 0), 3539);
        due(13, "meets(6, 7, 1, 3540)", x.meets(6, 7, 1, 3540), 7079);
    }

    private static void missing() {
        NeverStop x = new NeverStop();
        x.world(1, 1);
        x.ship(3, 5, 2, 1);
        x.loop(0, 0, 4, 0);
        due(15, "miss(0, 0, 4)", x.miss(0, 0, 4), 2);
        due(15, "miss(0, 0, 6)", x.miss(0, 0, 6), 8);
        due(15, "miss(0, 0, 5)", x.miss(0, 0, 5), -3);
        due(15, "miss(0, 0, -1)", x.miss(0, 0, -1), -7);
        due(15, "miss(0, 0, 20001)", x.miss(0, 0, 20001), -7);
        due(15, "miss(1, 0, -1)", x.miss(1, 0, -1), -5);
        due(15, "miss(0, 1, -1)", x.miss(0, 1, -1), -5);
        x.loop(0, 0, 0, 0);
        due(15, "miss(0, 0, 20000)", x.miss(0, 0, 20000), 7);
        x.loop(0, 0, -1, 0);
        due(15, "miss(0, 0, 0)", x.miss(0, 0, 0), -3);
        x.ship(0, 2, 0, 1);
        x.loop(1, 0, 1, 0);
        due(15, "miss(1, 0, 1)", x.miss(1, 0, 1), 2);
    }

    private static void waiting() {
        NeverStop x = new NeverStop();
        x.world(1, 1);
        x.world(1, 1);
        due(16, "waits(0, 0, 200)", x.waits(0, 0, 200), 200);
        x.ship(0, 6, 0, 1);
        x.loop(0, 0, 0, 0);
        x.ship(0, 4, 0, 1);
        x.loop(1, 0, 1, 0);
        due(16, "waits(0, 0, 12)", x.waits(0, 0, 12), 3);
        due(16, "waits(0, 0, 1)", x.waits(0, 0, 1), 0);
        due(16, "waits(0, 2, 1)", x.waits(0, 2, 1), 1);
        due(16, "waits(0, 3, 2)", x.waits(0, 3, 2), 2);
        due(16, "waits(0, 7, 5)", x.waits(0, 7, 5), 2);
        due(16, "waits(1, 20000, 200)", x.waits(1, 20000, 200), 200);
        x.loop(1, 0, -1, 0);
        due(16, "waits(0, 20000, 200)", x.waits(0, 20000, 200), 5);
        due(16, "waits(0, 20000, 4)", x.waits(0, 20000, 4), 4);
        due(16, "waits(0, 0, 0)", x.waits(0, 0, 0), -7);
        due(16, "waits(0, 0, 201)", x.waits(0, 0, 201), -7);
        due(16, "waits(0, -1, 1)", x.waits(0, -1, 1), -7);
        due(16, "waits(0, 20001, 1)", x.waits(0, 20001, 1), -7);
        due(16, "waits(2, -1, 0)", x.waits(2, -1, 0), -5);
    }

    private static void choosing() {
        NeverStop x = new NeverStop();
        x.world(1, 1);
        x.world(1, 1);
        x.ship(0, 10, 0, 1);
        x.loop(0, 0, 0, 0);
        x.turn(0, 4);
        due(17, "choose(0, 0, 20, 0)", x.choose(0, 0, 20, 0), 0);
        due(17, "choose(0, 0, 20, 1)", x.choose(0, 0, 20, 1), 9);
        due(17, "choose(0, 0, 15, 0)", x.choose(0, 0, 15, 0), 7);
        due(17, "choose(0, 0, 15, 1)", x.choose(0, 0, 15, 1), 7);
        due(17, "choose(0, 0, 1, 0)", x.choose(0, 0, 1, 0), 0);
        due(17, "choose(0, 0, 1, 1)", x.choose(0, 0, 1, 1), 0);
        due(17, "choose(0, 1, 200, 0)", x.choose(0, 1, 200, 0), 0);
        due(17, "choose(0, 1, 200, 1)", x.choose(0, 1, 200, 1), 200);
        due(17, "it stays turned as it was", x.turn(0, 4), 4);
        // another one passes on 2, 12, ..: halfway between is best
        x.ship(0, 10, 0, 1);
        x.loop(1, 0, 2, 0);
        due(17, "choose(0, 0, 200, 0)", x.choose(0, 0, 200, 0), 7);
        due(17, "choose(0, 0, 200, 1)", x.choose(0, 0, 200, 1), 4);
        due(17, "choose(0, 0, 0, 0)", x.choose(0, 0, 0, 0), -7);
        due(17, "choose(0, 0, 201, 0)", x.choose(0, 0, 201, 0), -7);
        due(17, "choose(0, 0, 1, 2)", x.choose(0, 0, 1, 2), -7);
        due(17, "choose(0, 0, 1, -1)", x.choose(0, 0, 1, -1), -7);
        due(17, "choose(2, 0, 0, 2)", x.choose(2, 0, 0, 2), -5);
        due(17, "choose(0, 2, 0, 2)", x.choose(0, 2, 0, 2), -5);
    }

    private static void feeding() {
        NeverStop x = new NeverStop();
        due(18, "feed(0, 0)", x.feed(0, 0), -2);
        due(18, "feed(0, 9)", x.feed(0, 9), -2);
        due(18, "feed(0, -1)", x.feed(0, -1), -2);
        due(18, "feed(..c, 1)", x.feed(0x4142434445464700L | 'c', 1), 1);
        due(18, "feed(..atch, 4)", x.feed(0xFFFFFFFF61746368L, 4), 5);
        due(18, "rest", feedAll(x, " 1;drop 1;change 1;"), 24);
        due(18, "text()", x.text(), 1);
        due(18, "count(5)", x.count(5), 0);
        for (int i = 1; i <= 19; i++) {
            due(18, "feed(-1, 8)", x.feed(-1, 8), 8 * i);
        }
        due(18, "feed(-1, 7)", x.feed(-1, 7), 159);
        due(18, "feed(-1, 2)", x.feed(-1, 2), -4);
        due(18, "count(5)", x.count(5), 159);
        due(18, "feed(-1, 1)", x.feed(-1, 1), 160);
        due(18, "feed(-1, 1)", x.feed(-1, 1), -4);
        due(18, "feed(-1, 9)", x.feed(-1, 9), -2);
        due(18, "text()", x.text(), -100);
        StringBuilder full = new StringBuilder("catch 7;drop 8;change 9;");
        while (full.length() < 160) {
            full.append(' ');
        }
        due(18, "a full tape", feedAll(x, full.toString()), 160);
        due(18, "text()", x.text(), 2);
        // a word, a number that end with the tape: what is missing is missing behind them
        StringBuilder word = new StringBuilder("catch 7;drop 8;");
        while (word.length() < 154) {
            word.append(' ');
        }
        due(19, "a word at the end of a full tape", textOf(x, word + "change"), -260);
        word.setLength(153);
        due(19, "a number at the end of a full tape", textOf(x, word + "change9"), -260);
        word.setLength(152);
        due(19, "a sign at the end of a full tape", textOf(x, word + "change9;"), 3);
    }

    private static void texts() {
        NeverStop x = new NeverStop();
        due(19, "plain", textOf(x, "catch 1;drop 2;change 3;"), 1);
        due(19, "without blanks", textOf(x, "catch1;drop2;change3;"), 2);
        due(19, "blanks", textOf(x, "\n catch\n1 ; \n drop 2; change  3 ; \n"), 3);
        due(19, "all of it", textOf(x, "catch not quick<room and day=load or ship;drop(world);change--9999*0+1-2;"), 4);
        due(19, "a fault", textOf(x, "catch 1;drop 2;change 3"), -123);
        due(19, "count(3)", x.count(3), 5);
        due(19, "the last", textOf(x, "catch 1;drop 2;change 3;"), 5);
        due(19, "FULL", textOf(x, "catch"), -4);
        due(19, "the tape stays", x.count(5), 5);
        due(19, "FULL", x.text(), -4);
        due(19, "count(3)", x.count(3), 6);
    }

    private static void faultAt(int place, String text) {
        NeverStop x = new NeverStop();
        due(19, "text() of '" + text + "'", textOf(x, text), -100 - place);
        due(19, "the tape behind '" + text + "'", x.count(5), 0);
        due(19, "TEXTS behind '" + text + "'", x.count(3), 1);
    }

    private static void faults() {
        faultAt(0, "");
        faultAt(2, "  ");
        faultAt(5, "catch");
        faultAt(8, "catch   ");
        faultAt(7, "catch 1");
        faultAt(8, "catch 1;");
        faultAt(21, "catch 1;drop 1;change");
        faultAt(24, "catch 1;drop 1;change 1;;");
        faultAt(25, "catch 1;drop 1;change 1; 1");
        faultAt(24, "catch 1;drop 1;change 1;x");
        faultAt(24, "catch 1;drop 1;change 1;?");
        faultAt(24, "catch 1;drop 1;change 1;12345");
        faultAt(0, "drop 1;");
        faultAt(0, "1");
        faultAt(8, "catch 1;change 1;");
        faultAt(6, "catch ;");
        faultAt(6, "catch 12345;");
        faultAt(6, "catch 00001;");
        faultAt(8, "catch 1 2;");
        faultAt(7, "catch 1quick;");
        faultAt(6, "catch quicky;");
        faultAt(6, "catch quic;");
        faultAt(6, "catch xuick;");
        faultAt(6, "catch quickz;");
        faultAt(6, "catch zday;");
        faultAt(11, "catch quick{;");
        faultAt(6, "catch `;");
        faultAt(6, "catch :1;");
        faultAt(6, "catch Quick;");
        faultAt(0, "catchquick;");
        faultAt(0, "catches 1;");
        faultAt(6, "catch or;");
        faultAt(6, "catch catch;");
        faultAt(6, "catch * 1;");
        faultAt(6, "catch + 1;");
        faultAt(6, "catch <;");
        faultAt(6, "catch ) ;");
        faultAt(8, "catch 1+not 2;");
        faultAt(8, "catch 1<not 2;");
        faultAt(7, "catch -not 1;");
        faultAt(9, "catch 1<2<3;");
        faultAt(9, "catch 1=2=3;");
        faultAt(9, "catch 1<2=3;");
        faultAt(8, "catch (1;");
        faultAt(7, "catch 1);");
        faultAt(7, "catch ();");
        faultAt(8, "catch 1+;");
        faultAt(8, "catch 1*/2;");
        faultAt(7, "catch 1/2;");
        faultAt(7, "catch 1\t2;");
        faultAt(7, "catch 1" + (char) 200 + ";");
        faultAt(6, "catch " + (char) 0 + ";");
        faultAt(7, "catch 1,2;");
        faultAt(10, "catch not or 1;");
        faultAt(11, "catch 1 or or 1;");
        faultAt(8, "catch 1 not 1;");
        faultAt(8, "catch 1<=2;");
    }

    /** What an earlier, longer text left behind a shorter one's end is none of its bytes. */
    private static void shorterTexts() {
        NeverStop x = new NeverStop();
        due(19, "a longer word", textOf(x, "catch quickz;"), -106);
        due(19, "a shorter word, at the end", textOf(x, "catch quick"), -111);
        due(19, "a longer number", textOf(x, "catch 12345;"), -106);
        due(19, "a shorter number, at the end", textOf(x, "catch 1234"), -110);
        due(19, "a whole text", textOf(x, "catch 1;drop 1;change 1;"), 1);
        due(19, "its beginning", textOf(x, "catch 1;drop 1;change 1"), -123);
    }

    private static void opens() {
        NeverStop x = new NeverStop();
        String rest = ";drop 1;change 1;";
        due(19, "five (", textOf(x, "catch (((((1)))))" + rest), 1);
        due(19, "five -", textOf(x, "catch 1------1" + rest), 2);
        due(19, "five not", textOf(x, "catch not not not not not 1" + rest), 3);
        due(19, "closed again", textOf(x, "catch(1)+(1)*(1)-(1)<(1)+(1)*(1)or not 1 and not 1 or -1*-1*-1*-1*-1*-1" + rest), 4);
        due(19, "opened and closed", textOf(x, "catch ((((-1)*(1)+-1))*-(((1))))+(((((1)))))" + rest), 5);
        faultAt(11, "catch ((((((1))))))" + rest);
        faultAt(11, "catch ------1" + rest);
        faultAt(26, "catch not not not not not not 1" + rest);
        faultAt(13, "catch not(-(-(1))))" + rest);
        faultAt(16, "catch (not not(-not 1))" + rest);
        faultAt(16, "catch (not not(-(1)))" + rest);
        faultAt(15, "catch (((((1+1<-1)))))" + rest);
        faultAt(12, "catch (((((1(1)))))" + rest);
        faultAt(11, "catch (((((((");
    }

    private static void forcing() {
        NeverStop x = new NeverStop();
        x.world(1, 1);
        x.ship(0, 5, 0, 5);
        textOf(x, "catch 11;drop 12;change 13;");
        due(20, "force(1)", x.force(1), 0);
        due(20, "count(4)", x.count(4), 1);
        due(20, "fuel(0, 0, 0, 0, 1)", x.fuel(0, 0, 0, 0, 1), 11);
        due(20, "force(2)", x.force(2), -2);
        due(20, "force(-1)", x.force(-1), -2);
        due(20, "force(1)", x.force(1), 1);
        due(20, "force(0)", x.force(0), 1);
        due(20, "fuel(0, 0, 0, 0, 1)", x.fuel(0, 0, 0, 0, 1), 3);
    }

    /** FUEL of a CATCH by an E: ship 1 (SLOW, quick 3, room 50) at world 2, on day 30, with 4. */
    private static void worth(int want, String e) {
        NeverStop x = new NeverStop();
        x.world(1, 1);
        x.world(1, 1);
        x.world(1, 1);
        x.ship(0, 5, 0, 5);
        x.ship(1, 5, 0, 50);
        x.loop(1, 2, -1, 7);
        due(21, e, textOf(x, "catch " + e + ";drop 98;change 97;"), 1);
        x.force(1);
        due(21, e, x.fuel(0, 1, 2, 30, 4), want);
        due(21, "drop behind " + e, x.fuel(1, 1, 2, 30, 4), 98);
        due(21, "change behind " + e, x.fuel(2, 1, 2, 30, 4), 97);
    }

    private static void fuels() {
        NeverStop x = new NeverStop();
        x.world(1, 1);
        x.ship(0, 5, 0, 5);
        x.loop(0, 0, -1, 7);
        due(21, "fuel(0, 0, 0, 0, 1)", x.fuel(0, 0, 0, 0, 1), 17);
        due(21, "fuel(1, 0, 0, 20000, 99)", x.fuel(1, 0, 0, 20000, 99), 8);
        due(21, "fuel(2, 0, 0, 0, 1)", x.fuel(2, 0, 0, 0, 1), 2);
        due(21, "fuel(3, 9, 9, -1, 0)", x.fuel(3, 9, 9, -1, 0), -2);
        due(21, "fuel(-1, 0, 0, 0, 1)", x.fuel(-1, 0, 0, 0, 1), -2);
        due(21, "fuel(0, 1, 0, -1, 1)", x.fuel(0, 1, 0, -1, 1), -5);
        due(21, "fuel(0, 0, 1, -1, 1)", x.fuel(0, 0, 1, -1, 1), -5);
        due(21, "fuel(0, 0, 0, -1, 1)", x.fuel(0, 0, 0, -1, 1), -7);
        due(21, "fuel(0, 0, 0, 20001, 1)", x.fuel(0, 0, 0, 20001, 1), -7);
        due(21, "fuel(0, 0, 0, 0, 0)", x.fuel(0, 0, 0, 0, 0), -7);
        due(21, "fuel(0, 0, 0, 0, 100)", x.fuel(0, 0, 0, 0, 100), -7);
        worth(3, "quick");
        worth(50, "room");
        worth(30, "day");
        worth(4, "load");
        worth(1, "ship");
        worth(2, "world");
        worth(99, "100");
        worth(99, "99");
        worth(0, "-1");
        worth(0, "0");
        worth(14, "2+3*4");
        worth(20, "(2+3)*4");
        worth(5, "10-3-2");
        worth(2, "-3+5");
        worth(8, "3--5");
        worth(15, "-3*-5");
        worth(1, "5 or 0");
        worth(0, "0 or 0");
        worth(1, "5 and 7");
        worth(0, "5 and 0");
        worth(0, "not 5");
        worth(1, "not 0");
        worth(1, "not not 5");
        worth(1, "2<3");
        worth(0, "3<3");
        worth(1, "3=3");
        worth(0, "3=4");
        worth(0, "not 1<2");
        worth(1, "not 2<1");
        worth(1, "1 or 0 and 0");
        worth(0, "(1 or 0) and 0");
        worth(1, "1+1<2*2");
        worth(10, "(1 or 0)*10");
        worth(1, "-1 and 1");
        worth(7, "0007");
        // 9999 * 9999 * 43 is 4299140043, which wraps to 4172747
        worth(64, "9999*9999*43-417*9999-3100");
        worth(1, "9999*9999*43=417*9999+3164");
        worth(0, "9999*9999*22");
    }

    /** Three worlds; ship 0 (room 8) goes by 0 and 1, ship 1 (room 5) by all. */
    private static NeverStop sky() {
        NeverStop x = new NeverStop();
        x.world(1, 4);
        x.world(1, 4);
        x.world(3, 2);
        x.ship(0, 6, 0, 8);
        x.ship(0, 8, 0, 5);
        x.loop(0, 0, 0, 1);
        x.loop(0, 1, 3, 2);
        x.loop(1, 1, 3, 1);
        x.loop(1, 2, 6, 3);
        x.loop(1, 0, 5, 0);
        return x;
    }

    private static void soonest() {
        NeverStop x = sky();
        due(22, "soon(0, 2, 0, 1)", x.soon(0, 2, 0, 1), 6);
        due(22, "soon(0, 1, 0, 1)", x.soon(0, 1, 0, 1), 3);
        due(22, "soon(0, 1, 1, 1)", x.soon(0, 1, 1, 1), 9);
        due(22, "soon(0, 2, 0, 5)", x.soon(0, 2, 0, 5), 6);
        due(22, "soon(0, 2, 0, 6)", x.soon(0, 2, 0, 6), -1);
        due(22, "soon(0, 1, 0, 8)", x.soon(0, 1, 0, 8), 3);
        due(22, "soon(0, 1, 0, 9)", x.soon(0, 1, 0, 9), -1);
        due(22, "soon(2, 2, 20000, 99)", x.soon(2, 2, 20000, 99), 20000);
        due(22, "soon(0, 1, 20000, 1)", x.soon(0, 1, 20000, 1), 20007);
        due(22, "soon(0, 3, 0, 1)", x.soon(0, 3, 0, 1), -5);
        due(22, "soon(-1, 1, 0, 1)", x.soon(-1, 1, 0, 1), -5);
        due(22, "soon(0, 1, -1, 1)", x.soon(0, 1, -1, 1), -5);
        due(22, "soon(0, 1, 20001, 1)", x.soon(0, 1, 20001, 1), -5);
        due(22, "soon(0, 1, 0, 0)", x.soon(0, 1, 0, 0), -5);
        due(22, "soon(0, 1, 0, 100)", x.soon(0, 1, 0, 100), -5);
        // both worlds on one day: one act a day, so caught on 2, let off on 7
        x = new NeverStop();
        x.world(1, 1);
        x.world(1, 1);
        x.ship(0, 5, 0, 1);
        x.loop(0, 0, 2, 0);
        x.loop(0, 1, 2, 0);
        due(22, "one act a day", x.soon(0, 1, 0, 1), 7);
        due(22, "a ship with no room for two", x.soon(0, 1, 0, 2), -1);
    }

    /** World 0 to 1 by ship 0 (59, 118), 1 to 2 by ship 1 (177, 236). */
    private static NeverStop longWay() {
        NeverStop x = new NeverStop();
        x.world(1, 1);
        x.world(1, 1);
        x.world(1, 1);
        x.ship(0, 60, 0, 1);
        x.ship(0, 60, 0, 1);
        x.loop(0, 0, 59, 0);
        x.loop(0, 1, 58, 0);
        x.loop(1, 1, 57, 0);
        x.loop(1, 2, 56, 0);
        return x;
    }

    private static void spans() {
        NeverStop x = longWay();
        due(22, "soon(0, 2, 36, 1)", x.soon(0, 2, 36, 1), -1);
        due(22, "soon(0, 2, 37, 1)", x.soon(0, 2, 37, 1), 236);
        due(22, "soon(0, 2, 59, 1)", x.soon(0, 2, 59, 1), 236);
        due(24, "least(0, 2, 36, 1, 200)", x.least(0, 2, 36, 1, 200), -1);
        due(24, "least(0, 2, 37, 1, 200)", x.least(0, 2, 37, 1, 200), 8);
        due(24, "least(0, 2, 37, 1, 199)", x.least(0, 2, 37, 1, 199), -1);
        due(25, "edge(0, 2, 36, 1, -1)", x.edge(0, 2, 36, 1, -1), 0);
        due(25, "edge(0, 2, 36, 1, 0)", x.edge(0, 2, 36, 1, 0), -7);
        due(25, "edge(0, 2, 37, 1, -1)", x.edge(0, 2, 37, 1, -1), 1);
        due(25, "edge(0, 2, 37, 1, 0)", x.edge(0, 2, 37, 1, 0), 236);
        due(25, "edge(0, 2, 37, 1, 1)", x.edge(0, 2, 37, 1, 1), 8);
        due(26, "bears(0, 1, 0, 1)", x.bears(0, 1, 0, 1), -1);
        due(27, "needed(0, 1, 0, 1)", x.needed(0, 1, 0, 1), 1);
        due(27, "needed(0, 2, 37, 1)", x.needed(0, 2, 37, 1), 3);
        due(27, "needed(0, 2, 36, 1)", x.needed(0, 2, 36, 1), 3);
    }

    private static void reaching() {
        NeverStop x = longWay();
        due(23, "reach(0, 0, 1, 0)", x.reach(0, 0, 1, 0), 1);
        due(23, "reach(2, 0, 1, 0)", x.reach(2, 0, 1, 0), 4);
        due(23, "reach(0, 0, 1, 118)", x.reach(0, 0, 1, 118), 1);
        due(23, "reach(0, 0, 1, 119)", x.reach(0, 0, 1, 119), 3);
        due(23, "reach(0, 36, 1, 200)", x.reach(0, 36, 1, 200), 3);
        due(23, "reach(0, 37, 1, 200)", x.reach(0, 37, 1, 200), 7);
        due(23, "reach(0, 37, 2, 200)", x.reach(0, 37, 2, 200), 1);
        due(23, "reach(0, 0, 1, 201)", x.reach(0, 0, 1, 201), -7);
        due(23, "reach(0, 0, 1, -1)", x.reach(0, 0, 1, -1), -7);
        due(23, "reach(3, 0, 1, -1)", x.reach(3, 0, 1, -1), -5);
        due(23, "reach(0, 20001, 1, -1)", x.reach(0, 20001, 1, -1), -5);
        due(23, "reach(0, 0, 0, -1)", x.reach(0, 0, 0, -1), -5);
    }

    private static void leastFuel() {
        NeverStop x = sky();
        due(24, "least(0, 2, 0, 1, 7)", x.least(0, 2, 0, 1, 7), 7);
        due(24, "least(0, 2, 0, 1, 6)", x.least(0, 2, 0, 1, 6), -1);
        due(24, "least(0, 1, 0, 1, 3)", x.least(0, 1, 0, 1, 3), -1);
        due(24, "least(0, 1, 0, 1, 4)", x.least(0, 1, 0, 1, 4), 8);
        due(24, "least(0, 1, 0, 1, 11)", x.least(0, 1, 0, 1, 11), 8);
        due(24, "least(0, 1, 0, 1, 12)", x.least(0, 1, 0, 1, 12), 5);
        due(24, "least(0, 1, 0, 6, 200)", x.least(0, 1, 0, 6, 200), 8);
        due(24, "least(0, 1, 0, 9, 200)", x.least(0, 1, 0, 9, 200), -1);
        due(24, "least(1, 1, 0, 9, 0)", x.least(1, 1, 0, 9, 0), 0);
        due(24, "least(0, 1, 0, 1, 201)", x.least(0, 1, 0, 1, 201), -7);
        due(24, "least(0, 1, 0, 1, -1)", x.least(0, 1, 0, 1, -1), -7);
        due(24, "least(0, 3, 0, 1, -1)", x.least(0, 3, 0, 1, -1), -5);
        due(24, "least(0, 1, 0, 100, -1)", x.least(0, 1, 0, 100, -1), -5);
        // by a law by days: the ship that is dear on day 0 is cheap on day 6
        textOf(x, "catch (day=0)*50+load;drop 0;change 0;");
        x.force(1);
        due(24, "least(0, 1, 0, 3, 6)", x.least(0, 1, 0, 3, 6), 53);
        due(24, "least(0, 1, 0, 3, 10)", x.least(0, 1, 0, 3, 10), 3);
    }

    private static void edges() {
        NeverStop x = sky();
        due(25, "edge(0, 1, 0, 1, -1)", x.edge(0, 1, 0, 1, -1), 2);
        due(25, "edge(0, 1, 0, 1, 0)", x.edge(0, 1, 0, 1, 0), 3);
        due(25, "edge(0, 1, 0, 1, 1)", x.edge(0, 1, 0, 1, 1), 8);
        due(25, "edge(0, 1, 0, 1, 2)", x.edge(0, 1, 0, 1, 2), 11);
        due(25, "edge(0, 1, 0, 1, 3)", x.edge(0, 1, 0, 1, 3), 5);
        due(25, "edge(0, 1, 0, 1, 4)", x.edge(0, 1, 0, 1, 4), -7);
        due(25, "edge(0, 1, 0, 1, -2)", x.edge(0, 1, 0, 1, -2), -7);
        due(25, "edge(0, 1, 0, 1, max)", x.edge(0, 1, 0, 1, Integer.MAX_VALUE), -7);
        due(25, "edge(0, 1, 24, 1, 0)", x.edge(0, 1, 24, 1, 0), 27);
        due(25, "edge(0, 0, 0, 1, -2)", x.edge(0, 0, 0, 1, -2), -5);
        due(25, "edge(0, 3, 0, 1, -1)", x.edge(0, 3, 0, 1, -1), -5);
        due(25, "edge(0, 1, -1, 1, -1)", x.edge(0, 1, -1, 1, -1), -5);
        due(25, "edge(0, 1, 0, 0, -1)", x.edge(0, 1, 0, 0, -1), -5);
        // each next catch is cheaper: of the catches on 0, 6, .. 192 those that end by day 199
        textOf(x, "catch 99-day*10;drop 0;change 99;");
        x.force(1);
        x.loop(1, 0, -1, 0);
        due(25, "edge by a falling law", x.edge(0, 1, 0, 1, -1), 3);
        due(25, "its second day", x.edge(0, 1, 0, 1, 2), 9);
        due(25, "its second fuel", x.edge(0, 1, 0, 1, 3), 39);
        due(25, "its last fuel", x.edge(0, 1, 0, 1, 5), 0);
    }

    private static void bearing() {
        NeverStop x = sky();
        due(26, "bears(0, 2, 0, 1)", x.bears(0, 2, 0, 1), -1);
        due(27, "needed(0, 2, 0, 1)", x.needed(0, 2, 0, 1), 2);
        due(26, "bears(0, 1, 0, 1)", x.bears(0, 1, 0, 1), 11);
        due(27, "needed(0, 1, 0, 1)", x.needed(0, 1, 0, 1), 0);
        due(26, "bears(0, 1, 0, 6)", x.bears(0, 1, 0, 6), -1);
        due(27, "needed(0, 1, 0, 6)", x.needed(0, 1, 0, 6), 1);
        due(26, "bears(1, 1, 7, 99)", x.bears(1, 1, 7, 99), 7);
        due(27, "needed(1, 1, 7, 99)", x.needed(1, 1, 7, 99), 0);
        due(26, "bears(0, 3, 0, 1)", x.bears(0, 3, 0, 1), -5);
        due(26, "bears(0, 1, 20001, 1)", x.bears(0, 1, 20001, 1), -5);
        due(27, "needed(3, 0, 0, 1)", x.needed(3, 0, 0, 1), -5);
        due(27, "needed(0, 1, 0, 0)", x.needed(0, 1, 0, 0), -5);
        NeverStop empty = new NeverStop();
        empty.world(1, 1);
        empty.world(1, 1);
        due(26, "bears without ships", empty.bears(0, 1, 0, 1), -1);
        due(27, "needed without ships", empty.needed(0, 1, 0, 1), 0);
        due(26, "bears from a world to itself", empty.bears(0, 0, 3, 1), 3);
    }

    private static void judging() {
        NeverStop x = sky();
        row(x, 0, 2, 0, 0, 0, 3, 2, 1, 6, 1, 2);
        due(28, "judge(0, 2, 0, 1, 0)", x.judge(0, 2, 0, 1, 0), -1);
        due(29, "toldFuel(0, 2, 0, 1, 0)", x.toldFuel(0, 2, 0, 1, 0), 11);
        due(28, "judge(0, 2, 0, 5, 0)", x.judge(0, 2, 0, 5, 0), -1);
        due(28, "judge(0, 2, 0, 6, 0)", x.judge(0, 2, 0, 6, 0), 1);
        due(28, "judge(0, 2, 0, 9, 0)", x.judge(0, 2, 0, 9, 0), 0);
        due(28, "judge(0, 1, 0, 1, 0)", x.judge(0, 1, 0, 1, 0), 3);
        due(28, "judge(0, 2, 1, 1, 0)", x.judge(0, 2, 1, 1, 0), 0);
        due(28, "judge(1, 2, 0, 1, 0)", x.judge(1, 2, 0, 1, 0), 0);
        due(29, "toldFuel(0, 1, 0, 1, 0)", x.toldFuel(0, 1, 0, 1, 0), -3);
        due(29, "toldFuel(0, 2, 1, 1, 0)", x.toldFuel(0, 2, 1, 1, 0), -3);
        due(28, "judge(3, 2, 0, 1, 9)", x.judge(3, 2, 0, 1, 9), -5);
        due(28, "judge(0, 3, 0, 1, 9)", x.judge(0, 3, 0, 1, 9), -5);
        due(28, "judge(0, 2, -1, 1, 9)", x.judge(0, 2, -1, 1, 9), -5);
        due(28, "judge(0, 2, 0, 0, 9)", x.judge(0, 2, 0, 0, 9), -5);
        due(28, "judge(0, 2, 0, 1, 4)", x.judge(0, 2, 0, 1, 4), -2);
        due(28, "judge(0, 2, 0, 1, -1)", x.judge(0, 2, 0, 1, -1), -2);
        due(28, "judge(0, 2, 0, 1, 1)", x.judge(0, 2, 0, 1, 1), -11);
        due(29, "toldFuel(3, 2, 0, 1, 9)", x.toldFuel(3, 2, 0, 1, 9), -5);
        due(29, "toldFuel(0, 2, 0, 1, 4)", x.toldFuel(0, 2, 0, 1, 4), -2);
        due(29, "toldFuel(0, 2, 0, 1, 1)", x.toldFuel(0, 2, 0, 1, 1), -11);
        row(x, 1, 2, 0, 0, 0, 3);
        due(28, "judge of four numbers", x.judge(0, 2, 0, 1, 1), -2);
        due(29, "toldFuel of four numbers", x.toldFuel(0, 2, 0, 1, 1), -2);
        row(x, 1, 2);
        due(28, "judge of no acts", x.judge(0, 2, 0, 1, 1), 0);
        due(28, "judge of no acts, to itself", x.judge(2, 2, 0, 1, 1), -1);
        due(29, "toldFuel of no acts, to itself", x.toldFuel(2, 2, 0, 1, 1), 0);
        due(29, "toldFuel of no acts", x.toldFuel(0, 2, 0, 1, 1), -3);
        // by bytes, by shorts
        row(x, 2, 0, 0, 0, 0, 3, 1, 1);
        due(29, "toldFuel by bytes", x.toldFuel(0, 1, 0, 1, 2), 8);
        row(x, 3, 1, 24, 0, 0, 27, 1, 1);
        due(29, "toldFuel by shorts", x.toldFuel(0, 1, 0, 1, 3), 8);
        // ends aboard
        row(x, 3, 2, 0, 0, 0);
        due(28, "judge of a way that ends aboard", x.judge(0, 0, 0, 1, 3), 1);
        // there and back
        row(x, 3, 2, 0, 0, 0, 3, 1, 1, 9, 0, 0, 12, 1, 0);
        due(28, "judge there and back", x.judge(0, 0, 0, 1, 3), -1);
        due(29, "toldFuel there and back", x.toldFuel(0, 0, 0, 1, 3), 8 + 7 + 2);
    }

    private static void wrongAct(NeverStop x, String why, int want, int... acts) {
        row(x, 3, 2, acts);
        due(28, "judge: " + why, x.judge(0, 1, 0, 1, 3), want);
        due(29, "toldFuel: " + why, x.toldFuel(0, 1, 0, 1, 3), want == -1 ? 8 : -3);
    }

    private static void judgingWrongActs() {
        NeverStop x = sky();
        wrongAct(x, "nothing", -1, 0, 0, 0, 3, 1, 1);
        wrongAct(x, "day below 0", 0, -6, 0, 0, 3, 1, 1);
        wrongAct(x, "day too late", 1, 0, 0, 0, 20001, 1, 1);
        wrongAct(x, "the last day", -1, 0, 0, 0, 19995, 1, 1);
        wrongAct(x, "day of the last act", 1, 0, 0, 0, 0, 1, 0);
        wrongAct(x, "day ahead of the last act", 1, 6, 0, 0, 3, 1, 1);
        wrongAct(x, "what", 0, 0, 3, 0, 3, 1, 1);
        wrongAct(x, "what below 0", 0, 0, -1, 0, 3, 1, 1);
        wrongAct(x, "no such ship", 0, 0, 0, 2, 3, 1, 1);
        wrongAct(x, "no such ship", 0, 0, 0, -1, 3, 1, 1);
        wrongAct(x, "no such world", 1, 0, 0, 0, 3, 1, 3);
        wrongAct(x, "no such world", 1, 0, 0, 0, 3, 1, -1);
        wrongAct(x, "it doesn't pass", 0, 1, 0, 0, 3, 1, 1);
        wrongAct(x, "no drop there", 1, 0, 0, 0, 4, 1, 1);
        wrongAct(x, "no drop at another world", 1, 0, 0, 0, 3, 1, 0);
        wrongAct(x, "drop at first", 0, 0, 1, 0);
        wrongAct(x, "change at first", 0, 0, 2, 0);
        wrongAct(x, "catch aboard", 1, 0, 0, 0, 3, 0, 1);
        wrongAct(x, "change to itself", 1, 0, 0, 0, 3, 2, 0);
        wrongAct(x, "change where they don't meet", 1, 0, 0, 0, 5, 2, 1);
        wrongAct(x, "change to none", 1, 0, 0, 0, 3, 2, 2);
        wrongAct(x, "too short", 1, 0, 0, 0);
    }

    private static void changesAtWorlds() {
        NeverStop x = new NeverStop();
        for (int w = 0; w < 4; w++) {
            x.world(1, 1);
        }
        // both pass worlds 1 and 2 on day 1
        x.ship(0, 10, 0, 9);
        x.loop(0, 0, 0, 0);
        x.loop(0, 1, 1, 0);
        x.loop(0, 2, 1, 0);
        x.ship(0, 10, 0, 7);
        x.loop(1, 1, 1, 0);
        x.loop(1, 2, 1, 0);
        x.loop(1, 3, 2, 0);
        textOf(x, "catch 0;drop 0;change 50-world*10+ship+room;");
        x.force(1);
        row(x, 0, 2, 0, 0, 0, 1, 2, 1, 2, 1, 3);
        due(29, "a change at the least world", x.toldFuel(0, 3, 0, 1, 0), 48);
        due(24, "a change at any world", x.least(0, 3, 0, 1, 3), 38);
        due(22, "soon by a change", x.soon(0, 3, 0, 1), 2);
        // both pass world 0 on day 10, too: it is the least one then
        x.loop(1, 0, 0, 0);
        x.loop(0, 1, 0, 0);
        x.loop(1, 1, 0, 0);
        row(x, 1, 2, 0, 0, 0, 10, 2, 1, 12, 1, 3);
        due(29, "a change at world 0", x.toldFuel(0, 3, 0, 1, 1), 58);
        due(22, "soon by no change", x.soon(0, 3, 0, 8), -1);
    }

    private static void boats() {
        NeverStop x = sky();
        row(x, 1, 2, 0, 0, 0, 6, 0, 12, 0, 4);
        due(30, "fewest(0, 1)", x.fewest(0, 1), 2);
        due(30, "fewest(1, 1)", x.fewest(1, 1), 0);
        x.port(0, 1, 2);
        due(30, "fewest(0, 1), ready 2", x.fewest(0, 1), 1);
        x.port(0, 1, 3);
        due(30, "fewest(0, 1), ready 3", x.fewest(0, 1), 2);
        x.port(0, 1, 99);
        due(30, "fewest(0, 1), ready 99", x.fewest(0, 1), 4);
        row(x, 1, 1, 1, 7, 1, 7, 1, 7, 0, 7);
        due(30, "fewest on one day", x.fewest(1, 1), 3);
        due(30, "fewest(3, 9)", x.fewest(3, 9), -5);
        due(30, "fewest(0, 4)", x.fewest(0, 4), -2);
        due(30, "fewest(0, -1)", x.fewest(0, -1), -2);
        due(30, "fewest(0, 0)", x.fewest(0, 0), -11);
        row(x, 0, 2, 0, 0, 0);
        due(30, "fewest of three numbers", x.fewest(0, 0), -2);
        row(x, 0, 2, 0, 0, 3, 0);
        due(30, "fewest with no such world", x.fewest(0, 0), -2);
        row(x, 0, 2, 0, 0, 1, 20001);
        due(30, "fewest with no such day", x.fewest(0, 0), -2);
        row(x, 0, 2, 0, 0, 1, -1);
        due(30, "fewest with a day below 0", x.fewest(0, 0), -2);
        row(x, 0, 2, 0, 20000);
        due(30, "fewest on the last day", x.fewest(0, 0), 1);
        row(x, 0, 2);
        due(30, "fewest of none", x.fewest(0, 0), 0);
    }

    private static void lacking() {
        NeverStop x = sky();
        row(x, 1, 2, 0, 0, 0, 6, 0, 12, 0, 4);
        due(31, "lacks(1)", x.lacks(1), 1);
        x.port(0, 1, 2);
        due(31, "lacks(1), ready 2", x.lacks(1), -1);
        x.port(0, 1, 5);
        due(31, "lacks(1), ready 5", x.lacks(1), 3);
        x.port(0, 0, 2);
        x.port(0, 1, 7);
        due(31, "lacks(1), two boats", x.lacks(1), 1);
        x.port(0, 0, 0);
        due(31, "lacks(1), no boats", x.lacks(1), 0);
        row(x, 1, 2, 2, 9, 2, 8, 1, 9, 2, 8, 2, 9);
        due(31, "lacks: by days, then as they stand", x.lacks(1), 4);
        row(x, 1, 2, 1, 9, 1, 9, 2, 8, 2, 8, 2, 8, 2, 8);
        due(31, "lacks: by days", x.lacks(1), 5);
        row(x, 1, 2, 1, 9, 1, 9, 1, 9);
        due(31, "lacks: as they stand", x.lacks(1), 1);
        due(31, "lacks(4)", x.lacks(4), -2);
        due(31, "lacks(-1)", x.lacks(-1), -2);
        due(31, "lacks(0)", x.lacks(0), -11);
        row(x, 0, 2, 0);
        due(31, "lacks of one number", x.lacks(0), -2);
        row(x, 0, 2, 3, 0);
        due(31, "lacks with no such world", x.lacks(0), -2);
        row(x, 0, 2, 0, 20001);
        due(31, "lacks with no such day", x.lacks(0), -2);
        row(x, 0, 2);
        due(31, "lacks of none", x.lacks(0), -1);
        NeverStop empty = new NeverStop();
        row(empty, 0, 1);
        due(31, "lacks of none, without worlds", empty.lacks(0), -1);
    }

    private static void trips() {
        NeverStop x = sky();
        due(32, "trip(0, 0, 0, 1)", x.trip(0, 0, 0, 1), -2);
        due(32, "trip(0, 3, 0, 1)", x.trip(0, 3, 0, 1), -2);
        due(32, "trip(-1, 1, 0, 1)", x.trip(-1, 1, 0, 1), -2);
        due(32, "trip(0, 1, -1, 1)", x.trip(0, 1, -1, 1), -2);
        due(32, "trip(0, 1, 20001, 1)", x.trip(0, 1, 20001, 1), -2);
        due(32, "trip(0, 1, 0, 0)", x.trip(0, 1, 0, 0), -2);
        due(32, "trip(0, 1, 0, 100)", x.trip(0, 1, 0, 100), -2);
        due(32, "trip(0, 1, 20000, 99)", x.trip(0, 1, 20000, 99), 0);
        for (int i = 1; i < 10; i++) {
            due(32, "trip(1, 0, 0, 1)", x.trip(1, 0, 0, 1), i);
        }
        due(32, "trip(0, 1, 0, 1)", x.trip(0, 1, 0, 1), -4);
        due(32, "trip(0, 0, 0, 1)", x.trip(0, 0, 0, 1), -2);
        due(32, "count(2)", x.count(2), 10);
    }

    private static void ride(NeverStop x, int i, int ship, int on, int off) {
        due(33, "ride(" + i + ", 0)", x.ride(i, 0), ship);
        due(33, "ride(" + i + ", 1)", x.ride(i, 1), on);
        due(33, "ride(" + i + ", 2)", x.ride(i, 2), off);
    }

    private static void rides() {
        NeverStop x = sky();
        x.trip(0, 1, 0, 5);
        x.trip(0, 1, 1, 5);
        x.trip(0, 2, 0, 5);
        x.trip(0, 2, 0, 6);
        x.trip(1, 0, 4, 1);
        x.trip(0, 1, 19999, 1);
        ride(x, 0, 0, 0, 3);
        ride(x, 1, 0, 6, 9);
        ride(x, 2, 1, 5, 6);
        ride(x, 3, -1, -1, -1);
        ride(x, 4, 0, 9, 12);
        // day 20001 modulo 8 is 1: ship 1 from 20005 till 20011; ship 0 from 20004 till 20007
        ride(x, 5, 0, 20004, 20007);
        due(33, "ride(6, 0)", x.ride(6, 0), -5);
        due(33, "ride(-1, 9)", x.ride(-1, 9), -5);
        due(33, "ride(0, 3)", x.ride(0, 3), -7);
        due(33, "ride(0, -1)", x.ride(0, -1), -7);
        // as the ships are now
        x.turn(0, 1);
        ride(x, 0, 0, 1, 4);
        x.ship(0, 6, 0, 5);
        x.loop(2, 0, 3, 0);
        x.loop(2, 1, 4, 0);
        ride(x, 0, 0, 1, 4);
        x.turn(0, 2);
        ride(x, 0, 2, 3, 4);
        // let off behind the day of the catch alone
        x.loop(2, 1, 3, 0);
        ride(x, 0, 0, 2, 5);
        x.loop(0, 0, -1, 0);
        x.loop(1, 0, -1, 0);
        ride(x, 0, 2, 3, 9);
    }

    private static void aboard() {
        NeverStop x = sky();
        x.trip(0, 1, 0, 5);
        x.trip(0, 1, 0, 4);
        x.trip(0, 2, 0, 3);
        due(34, "aboard(0, 0, 3)", x.aboard(0, 0, 3), 9);
        due(34, "aboard(0, 2, 7)", x.aboard(0, 2, 7), 9);
        due(34, "aboard(0, 2, 2)", x.aboard(0, 2, 2), 4);
        due(34, "aboard(0, 3, 7)", x.aboard(0, 3, 7), 0);
        due(34, "aboard(0, 6, 7)", x.aboard(0, 6, 7), 0);
        due(34, "aboard(1, 4, 7)", x.aboard(1, 4, 7), 0);
        due(34, "aboard(1, 5, 7)", x.aboard(1, 5, 7), 3);
        due(34, "aboard(1, 6, 7)", x.aboard(1, 6, 7), 0);
        due(34, "aboard(0, 0, 0)", x.aboard(0, 0, 0), 0);
        due(34, "aboard(2, -1, 9)", x.aboard(2, -1, 9), -5);
        due(34, "aboard(0, -1, 0)", x.aboard(0, -1, 0), -7);
        due(34, "aboard(0, 20001, 0)", x.aboard(0, 20001, 0), -7);
        due(34, "aboard(0, 0, 8)", x.aboard(0, 0, 8), -7);
        due(34, "aboard(0, 0, -1)", x.aboard(0, 0, -1), -7);
    }

    private static void booking() {
        NeverStop x = sky();
        due(35, "book(0)", x.book(0), -1);
        due(35, "book(1)", x.book(1), -2);
        x.trip(0, 1, 0, 5);
        x.trip(0, 1, 0, 4);
        x.trip(2, 0, 0, 9);
        x.trip(0, 1, 0, 3);
        due(35, "book(1)", x.book(1), -1);
        due(35, "book(3)", x.book(3), 0);
        due(35, "book(9)", x.book(9), -1);
        due(35, "book(10)", x.book(10), -1);
        due(35, "book(11)", x.book(11), 0);
        due(35, "book(4)", x.book(4), 102);
        due(35, "book(12)", x.book(12), 102);
        due(35, "book(15)", x.book(15), 0);
        due(35, "book(16)", x.book(16), -2);
        due(35, "book(-1)", x.book(-1), -2);
        // aboard already as another one comes: the later catch is the one that finds no room
        NeverStop y = new NeverStop();
        y.world(1, 1);
        y.world(1, 1);
        y.world(1, 1);
        y.ship(0, 10, 0, 6);
        y.loop(0, 0, 0, 0);
        y.loop(0, 1, 2, 0);
        y.loop(0, 2, 5, 0);
        y.trip(0, 2, 0, 4);
        y.trip(1, 2, 0, 3);
        y.trip(2, 1, 0, 6);
        due(35, "the later catch", y.book(3), 1);
        due(35, "let off as the next is caught", y.book(5), -1);
        due(36, "most(0)", y.most(0), 5);
        due(36, "most(1)", y.most(1), 10);
    }

    private static void mostPeople() {
        NeverStop x = sky();
        due(36, "most(0) of none", x.most(0), 0);
        due(36, "most(1) of none", x.most(1), 0);
        x.trip(0, 1, 0, 5);
        x.trip(0, 1, 0, 4);
        x.trip(2, 0, 0, 9);
        x.trip(0, 1, 0, 3);
        due(36, "most(0)", x.most(0), 9);
        due(36, "most(1)", x.most(1), 8);
        x.trip(0, 1, 0, 8);
        due(36, "most(0): of like ones the least", x.most(0), 9);
        x.trip(0, 2, 0, 2);
        due(36, "most(0)", x.most(0), 41);
        due(36, "most(1)", x.most(1), 10);
        due(36, "most(2)", x.most(2), -2);
        due(36, "most(-1)", x.most(-1), -2);
    }

    private static void together() {
        NeverStop x = sky();
        due(37, "together(0, 1, 1, 5, 0)", x.together(0, 1, 1, 5, 0), 5);
        due(37, "together(0, 1, 1, 5, 1)", x.together(0, 1, 1, 5, 1), 1);
        due(37, "together(0, 1, 1, 6, 0)", x.together(0, 1, 1, 6, 0), 6);
        due(37, "together(0, 1, 1, 6, 1)", x.together(0, 1, 1, 6, 1), 0);
        due(37, "together(0, 2, 0, 5, 0)", x.together(0, 2, 0, 5, 0), 5);
        due(37, "together(0, 2, 0, 6, 0)", x.together(0, 2, 0, 6, 0), -1);
        due(37, "together(0, 2, 0, 6, 1)", x.together(0, 2, 0, 6, 1), -1);
        due(37, "of like ones the least", x.together(1, 0, 0, 1, 1), 0);
        due(37, "of like ones the day", x.together(1, 0, 0, 1, 0), 3);
        due(37, "behind day 20000", x.together(0, 1, 20000, 6, 0), 20004);
        due(37, "together(0, 0, 0, 1, 0)", x.together(0, 0, 0, 1, 0), -5);
        due(37, "together(0, 3, 0, 1, 0)", x.together(0, 3, 0, 1, 0), -5);
        due(37, "together(0, 1, -1, 1, 0)", x.together(0, 1, -1, 1, 0), -5);
        due(37, "together(0, 1, 20001, 1, 0)", x.together(0, 1, 20001, 1, 0), -5);
        due(37, "together(0, 1, 0, 0, 0)", x.together(0, 1, 0, 0, 0), -5);
        due(37, "together(0, 1, 0, 100, 0)", x.together(0, 1, 0, 100, 0), -5);
        due(37, "together(0, 1, 0, 1, 2)", x.together(0, 1, 0, 1, 2), -5);
        due(37, "together(0, 1, 0, 1, -1)", x.together(0, 1, 0, 1, -1), -5);
    }

    private static void bread() {
        NeverStop x = sky();
        due(38, "bread(0, 5)", x.bread(0, 5), 81);
        due(38, "bread(0, 6)", x.bread(0, 6), 41);
        due(38, "bread(0, 4)", x.bread(0, 4), -1);
        due(38, "bread(0, 0)", x.bread(0, 0), -1);
        due(38, "bread(0, 84)", x.bread(0, 84), 2);
        due(38, "bread(0, 85)", x.bread(0, 85), 1);
        due(38, "bread(0, 999)", x.bread(0, 999), 1);
        due(38, "bread(1, 3): half of 5 is 2", x.bread(1, 3), 51);
        due(38, "bread(0, 1000)", x.bread(0, 1000), -7);
        due(38, "bread(0, -1)", x.bread(0, -1), -7);
        due(38, "bread(2, -1)", x.bread(2, -1), -5);
        due(39, "grow(0, 1)", x.grow(0, 1), 84);
        due(39, "grow(0, 10)", x.grow(0, 10), 12);
        due(39, "grow(0, 80)", x.grow(0, 80), 5);
        due(39, "grow(0, 81)", x.grow(0, 81), 4);
        due(39, "grow(0, 9999)", x.grow(0, 9999), 4);
        due(39, "grow(0, 0)", x.grow(0, 0), -7);
        due(39, "grow(0, 10000)", x.grow(0, 10000), -7);
        due(39, "grow(2, 0)", x.grow(2, 0), -5);
        x.ship(2, 5, 0, 99);
        x.ship(0, 5, 0, 0);
        due(39, "grow of a great one", x.grow(2, 1), 999);
        due(39, "grow of a great one", x.grow(2, 3), 99 + 660);
        due(38, "bread of a great one", x.bread(2, 100), 1981);
        due(38, "bread of one without room", x.bread(3, 0), -1);
        due(38, "bread of one without room", x.bread(3, 1), 1);
        due(39, "grow of one without room", x.grow(3, 1), 0);
    }

    private static void images() {
        NeverStop x = sky();
        textOf(x, "catch 1;drop 1;change 1;");
        x.trip(0, 1, 0, 1);
        x.turn(0, 3);
        due(41, "back()", x.back(), -3);
        due(40, "image()", x.image(), 2);
        x.turn(0, 5);
        x.turn(1, 5);
        x.port(0, 0, 9);
        x.port(2, 1, 9);
        x.trip(1, 2, 0, 1);
        x.trip(1, 2, 0, 1);
        x.force(1);
        x.loop(0, 0, 4, 7);
        x.ship(0, 9, 0, 9);
        x.turn(2, 8);
        x.world(7, 7);
        x.port(3, 0, 6);
        x.feed(0, 3);
        row(x, 0, 2, 5);
        due(41, "back()", x.back(), 3);
        due(41, "TURNED of 0", x.shipTold(0, 4), 3);
        due(41, "TURNED of 1", x.shipTold(1, 4), 0);
        due(41, "TURNED of 2, which came since", x.shipTold(2, 4), 8);
        due(41, "BOATS of 0", x.port(0, 0, 8), 1);
        due(41, "READY of 2", x.port(2, 1, 8), 2);
        due(41, "BOATS of 3, which came since", x.taken(3, 6), 6);
        due(41, "TRIPS", x.count(2), 1);
        due(41, "THE LAW", x.count(4), 0);
        due(41, "PHASE is not kept", x.shipTold(0, 5), 4);
        due(41, "SPEED is not kept", x.shipTold(0, 9), 7);
        due(41, "TEXTS are not kept", x.count(3), 2);
        due(41, "THE TAPE is not kept", x.count(5), 3);
        due(41, "SHEETS are not kept", x.cell(0, 0, 5), 1);
        due(41, "the next trip's number", x.trip(2, 0, 0, 2), 1);
        due(41, "back() again", x.back(), 3);
        due(41, "BOATS of 0 again", x.port(0, 0, 8), 1);
        due(41, "TRIPS again", x.count(2), 1);
        x.turn(2, 7);
        due(40, "image() again", x.image(), 3);
        x.turn(2, 1);
        x.back();
        due(40, "TURNED of 2 by the new image", x.shipTold(2, 4), 7);
        due(40, "BOATS of 0 by the new image", x.taken(0, 6), 8);
    }

    private static void sheets() {
        NeverStop x = new NeverStop();
        due(42, "sheet(-1, 0, 1)", x.sheet(-1, 0, 1), -2);
        due(42, "sheet(4, 0, -1)", x.sheet(4, 0, -1), -2);
        due(42, "sheet(0, 3, -1)", x.sheet(0, 3, -1), -2);
        due(42, "sheet(0, -2, 1)", x.sheet(0, -2, 1), -2);
        due(42, "sheet(0, 0, 41)", x.sheet(0, 0, 41), -2);
        due(42, "sheet(0, 0, -1)", x.sheet(0, 0, -1), -14);
        due(42, "it is missing yet", x.cell(0, 0, 1), -11);
        due(42, "sheet(0, 0, 40)", x.sheet(0, 0, 40), 1);
        due(42, "its last place", x.cell(0, 39, 1), 1);
        due(42, "behind it", x.cell(0, 40, 1), -12);
        due(42, "sheet(0, 0, -1)", x.sheet(0, 0, -1), -14);
        due(42, "it is there yet", x.cell(0, 39, 1), 1);
        due(42, "sheet(0, 2, 0)", x.sheet(0, 2, 0), 1);
        due(42, "no place", x.cell(0, 0, 1), -12);
        due(42, "sheet(0, -1, 99)", x.sheet(0, -1, 99), 1);
        due(42, "missing", x.cell(0, 0, 1), -11);
        due(42, "sheet(0, -1, -99)", x.sheet(0, -1, -99), 1);
        due(43, "cell(4, 0, 0)", x.cell(4, 0, 0), -2);
        due(43, "cell(-1, 0, 0)", x.cell(-1, 0, 0), -2);
        due(43, "cell(3, -1, 0)", x.cell(3, -1, 0), -11);
        x.sheet(3, 1, 2);
        due(43, "cell(3, -1, 0)", x.cell(3, -1, 0), -12);
        due(43, "cell(3, 2, 0)", x.cell(3, 2, 0), -12);
        due(43, "cell(3, 1, 0)", x.cell(3, 1, 0), 1);
        // all 0 again: as trips from world 0 to world 0 none comes
        x.world(1, 1);
        x.world(1, 1);
        row(x, 1, 2, 0, 1, 0, 1);
        due(42, "trips by it", x.tripsBy(1, 2, 0, 1), 1);
        x.sheet(1, 2, 4);
        due(42, "no trips by it", x.tripsBy(1, 2, 0, 1), 0);
    }

    private static void cellsBySort() {
        NeverStop x = new NeverStop();
        x.world(1, 1);
        x.world(1, 1);
        row(x, 0, 0, 256, 257, 511, 1 - 256);
        due(43, "the lowest 8 bits", x.tripsBy(0, 0, 0, 1), 1);
        x.ship(0, 60, 0, 9);
        x.loop(0, 0, 15, 0);
        x.loop(0, 1, 16, 0);
        due(43, "a byte is 0 .. 255", x.ride(0, 1), 255);
        row(x, 0, 1, 65536, 65537, 65536 + 300, 1 - 65536);
        due(43, "the lowest 16 bits", x.tripsBy(0, 1, 0, 1), 1);
        due(43, "a short of 300", x.ride(1, 1), 315);
        row(x, 0, 1, 0, 1, 32768, 1);
        due(43, "a short has a sign", x.tripsBy(0, 1, 0, 1), 0);
        row(x, 0, 2, 0, 1, 65536, 1);
        due(43, "an int is whole", x.tripsBy(0, 2, 0, 1), 0);
        row(x, 0, 2, 0, 1, 20000, 99);
        due(43, "an int is whole", x.tripsBy(0, 2, 0, 1), 1);
    }

    private static void copies() {
        NeverStop x = new NeverStop();
        x.world(1, 1);
        x.world(1, 1);
        row(x, 0, 2, 0, 1, 7, 5);
        x.sheet(1, 2, 6);
        due(44, "copy(0, 0, 1, 2, 4)", x.copy(0, 0, 1, 2, 4), 4);
        due(44, "as copied", x.tripsBy(1, 2, 2, 1), 1);
        due(44, "copy(0, 0, 1, 3, 4)", x.copy(0, 0, 1, 3, 4), -12);
        due(44, "copy(0, 1, 1, 0, 4)", x.copy(0, 1, 1, 0, 4), -12);
        due(44, "copy(0, -1, 1, 0, 1)", x.copy(0, -1, 1, 0, 1), -12);
        due(44, "copy(0, 0, 1, -1, 1)", x.copy(0, 0, 1, -1, 1), -12);
        due(44, "copy(0, 0, 1, 0, -1)", x.copy(0, 0, 1, 0, -1), -12);
        due(44, "copy(0, 4, 1, 6, 0)", x.copy(0, 4, 1, 6, 0), 0);
        due(44, "copy(0, 5, 1, 0, 0)", x.copy(0, 5, 1, 0, 0), -12);
        due(44, "copy(0, 0, 1, 7, 0)", x.copy(0, 0, 1, 7, 0), -12);
        int max = Integer.MAX_VALUE;
        due(44, "copy(0, max, 1, max, max)", x.copy(0, max, 1, max, max), -12);
        due(44, "copy(0, 1, 1, 1, max)", x.copy(0, 1, 1, 1, max), -12);
        x.sheet(2, 1, 6);
        due(44, "copy(0, 9, 2, 9, -1)", x.copy(0, 9, 2, 9, -1), -13);
        due(44, "copy(0, 9, 3, 9, -1)", x.copy(0, 9, 3, 9, -1), -11);
        due(44, "copy(3, 0, 0, 0, 0)", x.copy(3, 0, 0, 0, 0), -11);
        due(44, "copy(4, 0, 3, 0, 0)", x.copy(4, 0, 3, 0, 0), -2);
        due(44, "copy(3, 0, -1, 0, 0)", x.copy(3, 0, -1, 0, 0), -2);
        // within itself, as they were: 0 1 7 5 becomes 0 0 1 7, then 0 1 7 7
        due(44, "copy(0, 0, 0, 1, 3)", x.copy(0, 0, 0, 1, 3), 3);
        due(44, "no trip by 0 0 1 7", x.tripsBy(0, 2, 0, 1), 0);
        due(44, "copy(0, 1, 0, 0, 3)", x.copy(0, 1, 0, 0, 3), 3);
        due(44, "a trip by 0 1 7 7", x.tripsBy(0, 2, 0, 1), 1);
        x.ship(0, 9, 0, 7);
        x.loop(0, 0, 7, 0);
        x.loop(0, 1, 8, 0);
        due(44, "its seven people", x.aboard(0, 7, 2), 7);
    }

    private static void tripsBySheet() {
        NeverStop x = new NeverStop();
        x.world(1, 1);
        x.world(1, 1);
        row(x, 0, 2, 0, 1, 0, 2, 0, 0, 0, 1, 1, 0, 9, 3, 1);
        due(45, "tripsBy(4, 2, 0, 1)", x.tripsBy(4, 2, 0, 1), -2);
        due(45, "tripsBy(-1, 2, 0, 1)", x.tripsBy(-1, 2, 0, 1), -2);
        due(45, "tripsBy(1, 3, 0, 1)", x.tripsBy(1, 3, 0, 1), -2);
        due(45, "tripsBy(1, -1, 0, 1)", x.tripsBy(1, -1, 0, 1), -2);
        due(45, "tripsBy(1, 2, 0, 11)", x.tripsBy(1, 2, 0, 11), -2);
        due(45, "tripsBy(1, 2, 0, -1)", x.tripsBy(1, 2, 0, -1), -2);
        due(45, "tripsBy(1, 2, 99, 1)", x.tripsBy(1, 2, 99, 1), -11);
        due(45, "tripsBy(0, 1, 99, 1)", x.tripsBy(0, 1, 99, 1), -13);
        due(45, "tripsBy(0, 2, -1, 1)", x.tripsBy(0, 2, -1, 1), -12);
        due(45, "tripsBy(0, 2, 13, 1)", x.tripsBy(0, 2, 13, 1), -12);
        due(45, "tripsBy(0, 2, 10, 1)", x.tripsBy(0, 2, 10, 1), -12);
        due(45, "tripsBy(0, 2, max, 10)", x.tripsBy(0, 2, Integer.MAX_VALUE, 10), -12);
        due(45, "tripsBy(0, 2, min, 10)", x.tripsBy(0, 2, Integer.MIN_VALUE, 10), -12);
        due(45, "tripsBy(0, 2, 99, 0)", x.tripsBy(0, 2, 99, 0), 0);
        due(45, "count(2)", x.count(2), 0);
        due(45, "tripsBy(0, 2, 0, 3): one is left out", x.tripsBy(0, 2, 0, 3), 2);
        due(45, "count(2)", x.count(2), 2);
        due(45, "tripsBy(0, 2, 0, 4): two came", x.tripsBy(0, 2, 0, 4), -12);
        due(45, "count(2)", x.count(2), 4);
        due(45, "tripsBy(0, 2, 9, 1): 0 9 3 1", x.tripsBy(0, 2, 9, 1), 0);
        due(45, "tripsBy(0, 2, 8, 1): 1 0 9 3", x.tripsBy(0, 2, 8, 1), 1);
        x.ship(0, 60, 0, 9);
        x.loop(0, 1, 9, 0);
        x.loop(0, 0, 10, 0);
        due(45, "from day 9", x.ride(4, 1), 9);
        due(45, "three people", x.aboard(0, 9, 16), 3);
        x.sheet(1, 0, 40);
        for (int i = 1; i < 40; i += 2) {
            x.cell(1, i, 1);
        }
        due(45, "five come, five don't", x.tripsBy(1, 0, 0, 10), 5);
        due(45, "none comes", x.tripsBy(1, 0, 0, 10), 0);
        due(45, "none comes, and it ends", x.tripsBy(1, 0, 1, 10), -12);
        due(45, "count(2)", x.count(2), 10);
    }

    private static void taken() {
        NeverStop x = new NeverStop();
        x.world(6, 1);
        x.world(7, 1);
        for (int kind = 0; kind < 6; kind++) {
            x.ship(kind, 5, 0, 1);
        }
        String[] of = {"012345", "1", "24", "35", "4", "5"};
        for (int kind = 0; kind < 6; kind++) {
            for (int s = 0; s < 6; s++) {
                int want = of[kind].indexOf('0' + s) >= 0 ? s : -13;
                due(46, "taken(" + (4 + s) + ", " + kind + ")", x.taken(4 + s, kind), want);
            }
            due(46, "taken(1, " + kind + ")", x.taken(1, kind), -13);
            due(46, "taken(" + (4 + kind) + ", 6)", x.taken(4 + kind, 6), -13);
        }
        due(46, "taken(0, 6)", x.taken(0, 6), 6);
        due(46, "taken(1, 6)", x.taken(1, 6), 7);
        due(46, "taken(2, 6)", x.taken(2, 6), -11);
        due(46, "taken(3, 0)", x.taken(3, 0), -11);
        due(46, "taken(10, 0)", x.taken(10, 0), -11);
        due(46, "taken(12, 6)", x.taken(12, 6), -11);
        due(46, "taken(13, 0)", x.taken(13, 0), -12);
        due(46, "taken(-1, 0)", x.taken(-1, 0), -12);
        due(46, "taken(-1, 7)", x.taken(-1, 7), -2);
        due(46, "taken(0, -1)", x.taken(0, -1), -2);
    }
}
