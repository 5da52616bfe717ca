import java.util.ArrayList;
import java.util.List;

/**
 * Each call with each of its numbers wrong, alone and together with others: of several refusals the first one told
 * is answered, and none changes anything. That is looked at from outside, by two objects of which one was refused.
 */
public final class RefusalTest extends Asks {
    private static final int MIN = Integer.MIN_VALUE, MAX = Integer.MAX_VALUE;
    private static final int BAD = NeverStop.BAD, STATE = NeverStop.STATE, FULL = NeverStop.FULL;
    /** Some of everything, all there can be of everything, nothing at all. */
    private static final int SOME = 0, ALL = 1, NOTHING = 2;
    /** So many refused calls of one object that it has enough of its 512 left to be looked at. */
    private static final int[] REFUSED = {90, 40, 90};

    public static void main(String[] args) {
        worldsAndShips();
        passings();
        theLaw();
        fromWorldToWorld();
        boatsAndTrips();
        theHost();
        fullOnes();
        emptyOnes();
        end();
    }

    // ---- what each call refuses, in the order in which it is told; the first numbers are as told

    private static void worldsAndShips() {
        new Case(SOME, "world", 9, 99)
            .not(BAD, 0, -1, 10, MIN, MAX).not(BAD, 1, 0, 100, MIN, MAX).hold();
        new Case(SOME, "port", 2, 0, 9)
            .not(-5, 0, -1, 3, 4, MIN, MAX).not(-7, 1, -1, 2, MIN, MAX).not(-7, 2, -1, 10, MIN, MAX).hold();
        new Case(SOME, "port", 0, 1, 99)
            .not(-5, 0, -1, 3).not(-7, 1, -1, 2).not(-7, 2, 100, MIN, MAX).hold();
        new Case(SOME, "ship", 5, 60, 29, 99)
            .not(BAD, 0, -1, 6, MIN, MAX).not(BAD, 1, 1, 61, MIN, MAX).not(BAD, 2, -1, 30, MIN, MAX)
            .not(BAD, 3, -1, 100, MIN, MAX).hold();
        new Case(SOME, "loop", 2, 2, 9, 9)
            .not(-5, 0, -1, 3, 9, MIN, MAX).not(-7, 1, -1, 3, 4, MIN, MAX).not(BAD, 2, -2, 10, MIN, MAX)
            .not(BAD, 3, -1, 10, MIN, MAX).hold();
        new Case(SOME, "turn", 2, 9)
            .not(-5, 0, -1, 3, 9, MIN, MAX).not(-7, 1, -1, 10, MIN, MAX).hold();
        new Case(SOME, "shipTold", 2, 12)
            .not(-5, 0, -1, 3, 9, MIN, MAX).not(-7, 1, -1, 13, MIN, MAX).hold();
        new Case(SOME, "count", 5)
            .not(BAD, 0, -1, 6, MIN, MAX).hold();
    }

    private static void passings() {
        new Case(SOME, "passes", 2, 20000)
            .not(-5, 0, -1, 3, 9, MIN, MAX).not(-7, 1, -1, 20001, MIN, MAX).hold();
        new Case(SOME, "here", 2, 20000)
            .not(-5, 0, -1, 3, 4, MIN, MAX).not(-7, 1, -1, 20001, MIN, MAX).hold();
        new Case(SOME, "often", 2, 2, 20000, 4000)
            .not(-5, 0, -1, 3, MIN, MAX).not(-5, 1, -1, 3, MIN, MAX).not(-7, 2, -1, 20001, MIN, MAX)
            .not(-7, 3, -1, 4001, MIN, MAX).hold();
        new Case(SOME, "next", 2, 2, 20000)
            .not(-5, 0, -1, 3, MIN, MAX).not(-5, 1, -1, 3, MIN, MAX).not(-7, 2, -1, 20001, MIN, MAX).hold();
        new Case(SOME, "meets", 2, 0, 2, 20000)
            .not(-5, 0, -1, 3, MIN, MAX).not(-5, 1, -1, 3, 2, MIN, MAX).not(-5, 2, -1, 3, MIN, MAX)
            .not(-7, 3, -1, 20001, MIN, MAX).hold();
        new Case(SOME, "meets", 0, 2, 0, 0)
            .not(-5, 0, 2).not(-5, 2, -1, 3).not(-7, 3, -1, 20001).hold();
        new Case(SOME, "seldom", 2, 1)
            .not(-5, 0, -1, 3, 4, MIN, MAX).not(-7, 1, -1, 2, MIN, MAX).hold();
        // ship 0 passes world 0 on days 3, 13, ..
        new Case(SOME, "miss", 0, 0, 3)
            .not(-5, 0, -1, 3, MIN, MAX).not(-5, 1, -1, 3, MIN, MAX).not(-7, 2, -1, 20001, MIN, MAX)
            .not(STATE, 2, 2, 4, 20000).hold();
        new Case(SOME, "waits", 2, 20000, 200)
            .not(-5, 0, -1, 3, 4, MIN, MAX).not(-7, 1, -1, 20001, MIN, MAX).not(-7, 2, 0, 201, MIN, MAX).hold();
        new Case(SOME, "choose", 2, 2, 200, 1)
            .not(-5, 0, -1, 3, MIN, MAX).not(-5, 1, -1, 3, MIN, MAX).not(-7, 2, 0, 201, MIN, MAX)
            .not(-7, 3, -1, 2, MIN, MAX).hold();
    }

    private static void theLaw() {
        new Case(SOME, "feed", 'x', 1)
            .not(BAD, 1, 0, -1, 9, MIN, MAX).hold();
        new Case(SOME, "force", 1)
            .not(BAD, 0, -1, 2, 6, MIN, MAX).hold();
        new Case(SOME, "fuel", 2, 2, 2, 20000, 99)
            .not(BAD, 0, -1, 3, MIN, MAX).not(-5, 1, -1, 3, MAX).not(-5, 2, -1, 3, MAX)
            .not(-7, 3, -1, 20001, MIN).not(-7, 4, 0, 100, MIN).hold();
    }

    private static void fromWorldToWorld() {
        new Case(SOME, "soon", 0, 2, 20000, 99)
            .not(-5, 0, -1, 3, MIN, MAX).not(-5, 1, -1, 3, MIN, MAX).not(-5, 2, -1, 20001, MIN, MAX)
            .not(-5, 3, 0, 100, MIN, MAX).hold();
        new Case(SOME, "reach", 2, 20000, 99, 200)
            .not(-5, 0, -1, 3, MIN, MAX).not(-5, 1, -1, 20001, MIN, MAX).not(-5, 2, 0, 100, MIN, MAX)
            .not(-7, 3, -1, 201, MIN, MAX).hold();
        new Case(SOME, "least", 0, 2, 20000, 99, 200)
            .not(-5, 0, -1, 3, MAX).not(-5, 1, -1, 3, MAX).not(-5, 2, -1, 20001, MIN).not(-5, 3, 0, 100, MIN)
            .not(-7, 4, -1, 201, MIN, MAX).hold();
        new Case(SOME, "edge", 0, 2, 20000, 1, -1)
            .not(-5, 0, -1, 3).not(-5, 1, -1, 3, 0).not(-5, 2, -1, 20001, MIN).not(-5, 3, 0, 100, MIN)
            .not(-7, 4, -2, 400, MIN, MAX).hold();
        new Case(SOME, "edge", 2, 0, 0, 99, -1)
            .not(-5, 0, 0).not(-5, 2, -1, 20001).not(-5, 3, 0, 100).not(-7, 4, -2, 0).hold();
        new Case(SOME, "bears", 0, 2, 20000, 99)
            .not(-5, 0, -1, 3, MIN, MAX).not(-5, 1, -1, 3, MIN, MAX).not(-5, 2, -1, 20001, MIN, MAX)
            .not(-5, 3, 0, 100, MIN, MAX).hold();
        new Case(SOME, "needed", 0, 2, 20000, 99)
            .not(-5, 0, -1, 3, MIN, MAX).not(-5, 1, -1, 3, MIN, MAX).not(-5, 2, -1, 20001, MIN, MAX)
            .not(-5, 3, 0, 100, MIN, MAX).hold();
        // SHEET 0 is a way of two acts, SHEET 1 has seven numbers, SHEET 3 is missing
        new Case(SOME, "judge", 0, 1, 0, 1, 0)
            .not(-5, 0, -1, 3).not(-5, 1, -1, 3).not(-5, 2, -1, 20001).not(-5, 3, 0, 100)
            .not(BAD, 4, -1, 4, MIN, MAX).not(-11, 4, 3).not(BAD, 4, 1).hold();
        new Case(SOME, "toldFuel", 0, 1, 0, 1, 0)
            .not(-5, 0, -1, 3).not(-5, 1, -1, 3).not(-5, 2, -1, 20001).not(-5, 3, 0, 100)
            .not(BAD, 4, -1, 4, MIN, MAX).not(-11, 4, 3).not(BAD, 4, 1).hold();
        new Case(SOME, "toldFuel", 0, 1, 0, 1, 0)
            .not(BAD, 4, -1, 4).not(-11, 4, 3).not(BAD, 4, 1).not(STATE, 0, 2).not(STATE, 1, 0, 2)
            .not(STATE, 2, 4, 20000).not(STATE, 3, 10, 99).hold();
    }

    private static void boatsAndTrips() {
        // SHEET 1 has seven numbers; the second world of SHEET 0 is none
        new Case(SOME, "fewest", 2, 2)
            .not(-5, 0, -1, 3, 4, MIN, MAX).not(BAD, 1, -1, 4, MIN, MAX).not(-11, 1, 3).not(BAD, 1, 1, 0).hold();
        new Case(SOME, "lacks", 2)
            .not(BAD, 0, -1, 4, MIN, MAX).not(-11, 0, 3).not(BAD, 0, 1, 0).hold();
        new Case(SOME, "trip", 2, 0, 20000, 99)
            .not(BAD, 0, -1, 3, MIN, MAX).not(BAD, 1, -1, 3, 2, MIN, MAX).not(BAD, 2, -1, 20001, MIN, MAX)
            .not(BAD, 3, 0, 100, MIN, MAX).hold();
        new Case(SOME, "trip", 0, 2, 0, 1)
            .not(BAD, 0, 2).not(BAD, 2, -1, 20001).not(BAD, 3, 0, 100).hold();
        new Case(SOME, "ride", 2, 2)
            .not(-5, 0, -1, 3, 9, 10, MIN, MAX).not(-7, 1, -1, 3, MIN, MAX).hold();
        new Case(SOME, "aboard", 2, 20000, 7)
            .not(-5, 0, -1, 3, 9, MIN, MAX).not(-7, 1, -1, 20001, MIN, MAX).not(-7, 2, -1, 8, 1023, MIN, MAX).hold();
        new Case(SOME, "book", 7)
            .not(BAD, 0, -1, 8, 1023, MIN, MAX).hold();
        new Case(SOME, "most", 1)
            .not(BAD, 0, -1, 2, MIN, MAX).hold();
        new Case(SOME, "together", 0, 2, 20000, 99, 1)
            .not(-5, 0, -1, 3).not(-5, 1, -1, 3, 0).not(-5, 2, -1, 20001, MIN).not(-5, 3, 0, 100, MAX)
            .not(-5, 4, -1, 2, MIN, MAX).hold();
        new Case(SOME, "together", 2, 0, 0, 1, 0)
            .not(-5, 0, 0).not(-5, 2, -1, 20001).not(-5, 3, 0, 100).not(-5, 4, -1, 2).hold();
        new Case(SOME, "bread", 2, 999)
            .not(-5, 0, -1, 3, 9, MIN, MAX).not(-7, 1, -1, 1000, MIN, MAX).hold();
        new Case(SOME, "grow", 2, 9999)
            .not(-5, 0, -1, 3, 9, MIN, MAX).not(-7, 1, 0, 10000, MIN, MAX).hold();
    }

    private static void theHost() {
        new Case(SOME, "sheet", 3, 2, 40)
            .not(BAD, 0, -1, 4, MIN, MAX).not(BAD, 1, -2, 3, MIN, MAX).not(BAD, 2, 41, MAX).not(-14, 2, -1, MIN).hold();
        new Case(SOME, "cell", 0, 5, 0)
            .not(BAD, 0, -1, 4, MIN, MAX).not(-11, 0, 3).not(-12, 1, -1, 6, 39, 40, MIN, MAX).hold();
        // SHEET 0: six ints, SHEET 1: seven bytes
        new Case(SOME, "copy", 0, 4, 0, 0, 2)
            .not(BAD, 0, -1, 4, MAX).not(BAD, 2, -1, 4, MAX).not(-11, 0, 3).not(-11, 2, 3).not(-13, 2, 1)
            .not(-12, 1, -1, 5, MIN, MAX).not(-12, 3, -1, 5, MAX).not(-12, 4, -1, 3, MIN, MAX).hold();
        new Case(SOME, "copy", 1, 7, 1, 7, 0)
            .not(BAD, 0, -1, 4).not(BAD, 2, -1, 4).not(-11, 0, 3).not(-11, 2, 3).not(-13, 2, 0, 2)
            .not(-12, 1, -1, 8, MIN, MAX).not(-12, 3, -1, 8, MIN, MAX).hold();
        new Case(SOME, "tripsBy", 0, 2, 2, 1)
            .not(BAD, 0, -1, 4, MIN, MAX).not(BAD, 1, -1, 3, MIN, MAX).not(BAD, 3, -1, 11, MIN, MAX).not(-11, 0, 3)
            .not(-13, 1, 0, 1).not(-12, 2, -1, 3, 6, 40, MIN, MAX).hold();
        new Case(SOME, "taken", 6, 0)
            .not(BAD, 1, -1, 7, MIN, MAX).not(-12, 0, -1, 13, MIN, MAX).not(-11, 0, 3, 7, 12).not(-13, 0, 0, 2).hold();
        new Case(SOME, "taken", 2, 6)
            .not(BAD, 1, -1, 7, MIN, MAX).not(-12, 0, -1, 13, MIN, MAX).not(-11, 0, 3, 7, 12).not(-13, 1, 0, 5).hold();
        // ship 0 is a SHIP, 1 a SHY, 2 a BREATHER
        new Case(SOME, "taken", 5, 2).not(BAD, 1, -1, 7).not(-13, 1, 1, 3, 5, 6).not(-13, 0, 4).hold();
        new Case(SOME, "taken", 6, 3).not(BAD, 1, -1, 7).not(-13, 1, 1, 2, 4, 6).not(-13, 0, 4).hold();
    }

    /** Of all that has a last one, one more. */
    private static void fullOnes() {
        new Case(ALL, "world", 9, 99)
            .not(BAD, 0, -1, 10, MIN, MAX).not(BAD, 1, 0, 100, MIN, MAX).notAtAll(FULL).hold();
        new Case(ALL, "ship", 5, 60, 29, 99)
            .not(BAD, 0, -1, 6).not(BAD, 1, 1, 61).not(BAD, 2, -1, 30).not(BAD, 3, -1, 100).notAtAll(FULL).hold();
        new Case(ALL, "feed", 0, 4)
            .not(BAD, 1, 0, 9, MIN, MAX).notAtAll(FULL).hold();
        new Case(ALL, "feed", 0, 8).not(BAD, 1, 0, 9).notAtAll(FULL).hold();
        new Case(ALL, "text").notAtAll(FULL).hold();
        new Case(ALL, "trip", 2, 0, 20000, 99)
            .not(BAD, 0, -1, 4).not(BAD, 1, -1, 4, 2).not(BAD, 2, -1, 20001).not(BAD, 3, 0, 100).notAtAll(FULL).hold();
        new Case(ALL, "port", 3, 0, 9).not(-5, 0, -1, 4).not(-7, 1, -1, 2).not(-7, 2, -1, 10).hold();
        new Case(ALL, "turn", 8, 9).not(-5, 0, -1, 9).not(-7, 1, -1, 10).hold();
        new Case(ALL, "force", 5).not(BAD, 0, -1, 6).hold();
        new Case(ALL, "ride", 9, 2).not(-5, 0, -1, 10).not(-7, 1, -1, 3).hold();
        new Case(ALL, "aboard", 8, 20000, 1023).not(-5, 0, -1, 9).not(-7, 1, -1, 20001).not(-7, 2, -1, 1024).hold();
        new Case(ALL, "book", 1023).not(BAD, 0, -1, 1024).hold();
        new Case(ALL, "cell", 3, 39, 0).not(BAD, 0, -1, 4).not(-12, 1, -1, 40).hold();
        new Case(ALL, "taken", 12, 0).not(BAD, 1, -1, 7).not(-12, 0, -1, 13).hold();
        // all of them come by this SHEET, but there is no room for one
        new Case(ALL, "tripsBy", 3, 2, 0, 10).not(BAD, 0, -1, 4).not(-13, 1, 0, 1).not(-12, 2, 1, 4, 37, 40).hold();
    }

    /** Of all that has a first one, one less. */
    private static void emptyOnes() {
        String[] of = {"port 0 0 1", "loop 0 0 0 0", "turn 0 0", "shipTold 0 0", "passes 0 0", "here 0 0", "often 0 0 0 0",
            "next 0 0 0", "meets 0 1 0 0", "seldom 0 0", "miss 0 0 0", "waits 0 0 1", "choose 0 0 1 0", "fuel 0 0 0 0 1",
            "soon 0 0 0 1", "reach 0 0 1 0", "least 0 0 0 1 0", "edge 0 1 0 1 -1", "bears 0 0 0 1", "needed 0 0 0 1",
            "judge 0 0 0 1 0", "toldFuel 0 0 0 1 0", "fewest 0 0", "ride 0 0", "aboard 0 0 0", "together 0 1 0 1 0",
            "bread 0 0", "grow 0 1"};
        for (String call : of) {
            nothing(call, -5);
        }
        for (String call : new String[] {"force 1", "trip 0 1 0 1", "book 1"}) {
            nothing(call, BAD);
        }
        for (String call : new String[] {"lacks 0", "cell 0 0 0", "copy 0 0 1 0 0", "tripsBy 0 0 0 1", "taken 0 6", "taken 4 0"}) {
            nothing(call, -11);
        }
        nothing("back", STATE);
    }

    private static void nothing(String call, int refusal) {
        String[] words = call.split(" ");
        long[] numbers = new long[words.length - 1];
        for (int i = 0; i < numbers.length; i++) {
            numbers[i] = Long.parseLong(words[i + 1]);
        }
        new Case(NOTHING, words[0], numbers).notAtAll(refusal).hold();
    }

    // ---- one call

    private static final class Case {
        private final int scene;
        private final String name;
        private final long[] good;
        private final List<long[]> wrongs = new ArrayList<>();
        private int otherwise = 0;
        private final List<long[]> refused = new ArrayList<>();
        private NeverStop now = null;

        Case(int scene, String name, long... good) {
            this.scene = scene;
            this.name = name;
            this.good = good;
        }

        /** Behind all that was told ahead of it: a refusal, if the number at a place is one of these. */
        Case not(int refusal, int place, int... values) {
            int rank = wrongs.size();
            for (int v : values) {
                wrongs.add(new long[] {place, v, rank, refusal});
            }
            return this;
        }

        /** A refusal, though all numbers are as told. */
        Case notAtAll(int refusal) {
            otherwise = refusal;
            return this;
        }

        void hold() {
            if (otherwise == 0) {
                long answer = Calls.ask(object(scene), name, good);
                asked++;
                must(answer >= -1, told(good) + " is as told, and answered " + answer);
            }
            choose(0, good.clone(), null);
            look();
        }

        /** All choices of right and wrong numbers, place by place. */
        private void choose(int place, long[] numbers, long[] first) {
            if (place == good.length) {
                if (first != null || otherwise != 0) {
                    refuse(numbers.clone(), first == null ? otherwise : (int) first[3]);
                }
                return;
            }
            choose(place + 1, numbers, first);
            for (long[] wrong : wrongs) {
                if (wrong[0] == place) {
                    numbers[place] = wrong[1];
                    choose(place + 1, numbers, first == null || wrong[2] < first[2] ? wrong : first);
                    numbers[place] = good[place];
                }
            }
        }

        private void refuse(long[] numbers, int refusal) {
            if (now == null) {
                now = object(scene);
            }
            due(told(numbers), Calls.ask(now, name, numbers), refusal);
            refused.add(numbers);
            if (refused.size() == REFUSED[scene]) {
                look();
            }
        }

        /** Holds the object that was refused against one that was not. */
        private void look() {
            if (now == null) {
                return;
            }
            List<String> is = Look.at(now);
            List<String> was = Look.at(object(scene));
            asked++;
            int i = 0;
            while (i < was.size() && i < is.size() && was.get(i).equals(is.get(i))) {
                i++;
            }
            boolean same = i == was.size() && i == is.size();
            must(same, "refused calls from " + told(refused.get(0)) + " on change nothing: "
                + (i < is.size() ? is.get(i) : "no more") + ", due is " + (i < was.size() ? was.get(i) : "no more"));
            refused.clear();
            now = null;
        }

        private String told(long[] numbers) {
            StringBuilder to = new StringBuilder(name).append('(');
            for (int i = 0; i < numbers.length; i++) {
                to.append(i == 0 ? "" : ", ").append(numbers[i]);
            }
            return to.append(')').toString();
        }
    }

    // ---- the objects

    private static NeverStop object(int scene) {
        return scene == NOTHING ? new NeverStop() : scene == ALL ? all() : some();
    }

    /** Three worlds, ships, trips; two texts; an image; a way, a row, catches, a missing sheet; bytes on the tape. */
    private static NeverStop some() {
        NeverStop x = new NeverStop();
        x.world(1, 4);
        x.world(2, 5);
        x.world(3, 6);
        ship(x, 0, 10, 3, 9, 3, 5, 7);
        ship(x, 4, 10, 3, 9, 3, 6, 6);
        ship(x, 5, 10, 2, 9, 4, 5, 8);
        textOf(x, "catch 5+quick;drop 6+load;change 7+ship;");
        x.force(1);
        x.turn(1, 1);
        x.trip(0, 1, 0, 2);
        x.image();
        x.turn(2, 2);
        x.port(1, 0, 4);
        x.port(2, 1, 7);
        x.trip(1, 2, 5, 3);
        x.trip(2, 0, 9, 4);
        row(x, 0, 2, 3, 0, 0, 5, 1, 1);
        row(x, 1, 0, 1, 0, 2, 3, 0, 1, 4);
        row(x, 2, 1, 0, 3, 0, 5, 2, 3, 2, 9);
        feedAll(x, "catch");
        return x;
    }

    private static NeverStop all() {
        NeverStop x = worlds(4);
        for (int s = 0; s < 9; s++) {
            ship(x, s % 6, 10, s, 9, s, (s + 3) % 10);
        }
        for (int t = 1; t < 6; t++) {
            textOf(x, "catch " + t + ";drop 1;change 1;");
        }
        x.force(3);
        x.image();
        for (int i = 0; i < 10; i++) {
            x.trip(i % 2, 1 - i % 2, i, 1 + i);
        }
        x.sheet(3, 2, 40);
        for (int k = 0; k < 10; k++) {
            x.cell(3, 4 * k + 1, 1);
            x.cell(3, 4 * k + 3, k + 1);
        }
        feedAll(x, "catch 1;drop 2;change 3;" + " ".repeat(133));
        return x;
    }

    /** All that can be seen of an object from outside; it is used up by that. */
    private static final class Look {
        private final NeverStop x;
        private final List<String> seen = new ArrayList<>();

        private Look(NeverStop x) {
            this.x = x;
        }

        static List<String> at(NeverStop x) {
            Look look = new Look(x);
            look.counts();
            look.ships();
            look.trips();
            look.laws();
            look.ports();
            look.see("back()", x.back());
            look.counts();
            look.turned();
            look.ports();
            look.sheets();
            return look.seen;
        }

        private void see(String what, long is) {
            seen.add(what + " is " + is);
        }

        private void counts() {
            for (int what = 0; what < 6; what++) {
                see("count(" + what + ")", x.count(what));
            }
        }

        private void ships() {
            int all = x.count(1);
            for (int s = 0; s < all; s++) {
                for (int what : new int[] {0, 1, 2, 3, 4, 5, 6, 7, 9, 10}) {
                    see("shipTold(" + s + ", " + what + ")", x.shipTold(s, what));
                }
            }
        }

        private void turned() {
            int all = x.count(1);
            for (int s = 0; s < all; s++) {
                see("TURNED of " + s, x.shipTold(s, 4));
            }
        }

        private void ports() {
            for (int w = 0; w < 4; w++) {
                see("BOATS of " + w, x.port(w, 0, 0));
                see("READY of " + w, x.port(w, 1, 1));
            }
        }

        private void trips() {
            int all = x.count(2);
            for (int i = 0; i < all; i++) {
                int ship = x.ride(i, 0);
                int on = x.ride(i, 1);
                see("the ship of trip " + i, ship);
                see("the catch of trip " + i, on);
                see("the end of trip " + i, x.ride(i, 2));
                see("the people of trip " + i, ship < 0 ? -1 : x.aboard(ship, on, 1 << i));
            }
        }

        private void laws() {
            for (int part = 0; part < 3; part++) {
                see("FUEL of part " + part, x.fuel(part, 0, 1, 7, 3));
            }
            see("bytes with some more", feedAll(x, " 8;drop 9;change 10;"));
            int t = x.text();
            see("the text", t);
            see("the law that was", x.force(t));
            see("FUEL by the text", x.fuel(0, 0, 1, 7, 3));
            see("bytes behind it", x.count(5));
        }

        private void sheets() {
            int[] sizes = new int[4];
            int[] sorts = new int[4];
            for (int s = 0; s < 4; s++) {
                sorts[s] = sortOf(s);
                sizes[s] = sorts[s] < 0 ? 0 : sizeOf(s);
                see("the sort of sheet " + s, sorts[s]);
                see("the size of sheet " + s, sizes[s]);
            }
            for (int s = 0; s < 4; s++) {
                numbers(s, sorts[s], sizes[s], s == 3 ? 0 : 3);
            }
        }

        private int sortOf(int s) {
            for (int sort = 0; sort < 3; sort++) {
                if (x.tripsBy(s, sort, 0, 0) == 0) {
                    return sort;
                }
            }
            return -1;
        }

        private int sizeOf(int s) {
            int size = 0;
            for (int more = 32; more > 0; more /= 2) {
                size += x.copy(s, 0, s, 0, size + more) == size + more ? more : 0;
            }
            return size;
        }

        /** Number by number, as the people of a trip by another sheet. */
        private void numbers(int s, int sort, int size, int by) {
            if (size == 0) {
                return;
            }
            row(x, by, sort, 0, 1, 0, 1);
            x.back();
            x.tripsBy(by, sort, 0, 1);
            int trips = x.count(2);
            int ship = x.ride(trips - 1, 0);
            int on = x.ride(trips - 1, 1);
            for (int i = 0; i < size; i++) {
                if (trips == 10) {
                    x.back();
                    trips = x.count(2);
                }
                x.copy(s, i, by, 3, 1);
                int came = x.tripsBy(by, sort, 0, 1);
                see("number " + i + " of sheet " + s, came == 1 ? x.aboard(ship, on, 1 << trips) : came - 1);
                trips += came == 1 ? 1 : 0;
            }
        }
    }
}
