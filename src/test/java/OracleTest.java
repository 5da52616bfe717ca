import java.util.ArrayList;
import java.util.Arrays;
import java.util.HashMap;
import java.util.HashSet;
import java.util.List;
import java.util.Map;
import java.util.Random;
import java.util.Set;

/**
 * Runs of calls by chance, the same ones each time, on NeverStop and on a slow and plain program that was
 * written from the document alone: day by day, act by act, without any of the class's short cuts.
 */
public final class OracleTest {
    private static final int RUNS = 700;
    private static final int CALLS = 480;

    private static int wrong = 0;
    private static long asked = 0;

    public static void main(String[] args) {
        int runs = args.length > 0 ? Integer.parseInt(args[0]) : RUNS;
        int first = args.length > 1 ? Integer.parseInt(args[1]) : 0;
        long[] kinds = new long[Run.NAMES.length];
        for (int seed = first; seed < first + runs && wrong < 20; seed++) {
            new Run(seed, kinds).go();
        }
        for (int k = 0; k < kinds.length; k++) {
            if (kinds[k] == 0) {
                System.out.println("never answered as asked: " + Run.NAMES[k]);
                wrong++;
            }
        }
        System.out.println(asked + " answers asked, " + wrong + " wrong");
        if (wrong != 0) {
            System.exit(1);
        }
    }

    /** One object, its oracle, and the calls that were made. */
    static final class Run {
        static final String[] NAMES = {"world", "port", "ship", "loop", "turn", "shipTold", "count", "passes", "here",
            "often", "next", "meets", "seldom", "miss", "waits", "choose", "feed", "text", "force", "fuel", "soon",
            "reach", "least", "edge", "bears", "needed", "judge", "toldFuel", "fewest", "lacks", "trip", "ride",
            "aboard", "book", "most", "together", "bread", "grow", "image", "back", "sheet", "cell", "copy",
            "tripsBy", "taken"};

        final int seed;
        final long[] kinds;
        final Random by;
        final NeverStop x = new NeverStop();
        final Oracle o = new Oracle();
        final List<String> log = new ArrayList<>();
        final boolean wild;
        int calls = 0;
        boolean broken = false;

        Run(int seed, long[] kinds) {
            this.seed = seed;
            this.kinds = kinds;
            by = new Random(seed * 7919L + 13);
            wild = seed % 10 == 9;
        }

        void go() {
            begin();
            while (calls < CALLS && !broken) {
                step();
            }
        }

        int upTo(int n) {
            return by.nextInt(n + 1);
        }

        boolean once(int n) {
            return by.nextInt(n) == 0;
        }

        /** A number from .. to, now and then outside of it. */
        int in(int from, int to) {
            if (wild && once(4)) {
                int[] odd = {Integer.MIN_VALUE, Integer.MAX_VALUE, Integer.MAX_VALUE - 3, -2, -1, 0, 1 << 16, 1 << 30};
                return odd[by.nextInt(odd.length)];
            }
            if (once(60)) {
                return once(2) ? from - 1 - upTo(1) : to + 1 + upTo(1);
            }
            if (to < from) {
                return from;
            }
            if (once(8)) {
                return once(2) ? from : to;
            }
            return from + by.nextInt(to - from + 1);
        }

        int aWorld() {
            return in(0, o.worlds.size() - 1);
        }

        int aShip() {
            return in(0, o.ships.size() - 1);
        }

        int aDay() {
            return once(12) ? in(19900, 20000) : once(3) ? in(0, 20000) : in(0, 80);
        }

        int people() {
            return once(6) ? in(1, 99) : in(1, 12);
        }

        int aSheet() {
            return in(0, 3);
        }

        int aSet() {
            return in(0, (1 << o.trips.size()) - 1);
        }

        void begin() {
            int worlds = 1 + upTo(3);
            int ships = upTo(9);
            int rounds = once(3) ? 60 : once(2) ? 12 : 25;
            for (int w = 0; w < worlds; w++) {
                call("world", in(0, 9), in(1, once(2) ? 6 : 99));
            }
            for (int s = 0; s < ships; s++) {
                call("ship", in(0, 5), in(2, rounds), in(0, 29), once(4) ? in(0, 99) : in(0, 14));
            }
            for (int s = 0; s < o.ships.size(); s++) {
                for (int w = 0; w < o.worlds.size(); w++) {
                    if (!once(3)) {
                        call("loop", s, w, in(0, o.ships.get(s).round - 1), in(0, 9));
                    }
                }
            }
        }

        void step() {
            switch (upTo(41)) {
                case 0:
                    if (once(6)) {
                        call("world", in(0, 9), in(1, 99));
                    } else {
                        int what = in(0, 1);
                        call("port", aWorld(), what, in(what == 0 ? 0 : 1, what == 0 ? 9 : once(2) ? 8 : 99));
                    }
                    break;
                case 1:
                    if (once(4)) {
                        call("ship", in(0, 5), in(2, 60), in(0, 29), in(0, 99));
                    } else {
                        int s = aShip();
                        Oracle.Ship it = o.shipOf(s);
                        call("loop", s, aWorld(), in(-1, it == null ? 1 : it.round - 1), in(0, 9));
                    }
                    break;
                case 2: {
                    int s = aShip();
                    Oracle.Ship it = o.shipOf(s);
                    call("turn", s, in(0, it == null ? 1 : it.round - 1));
                    break;
                }
                case 3: call("shipTold", aShip(), in(0, 12)); break;
                case 4: call("count", in(0, 5)); break;
                case 5: call("passes", aShip(), aDay()); break;
                case 6: call("here", aWorld(), aDay()); break;
                case 7: call("often", aShip(), aWorld(), aDay(), once(2) ? in(0, 4000) : in(0, 90)); break;
                case 8: call("next", aShip(), aWorld(), aDay()); break;
                case 9: call("meets", aShip(), aShip(), aWorld(), aDay()); break;
                case 10:
                    if (once(3)) {
                        call("seldom", aWorld(), in(0, 1));
                    }
                    break;
                case 11: {
                    int s = aShip();
                    int w = aWorld();
                    int d = aDay();
                    if (o.shipOf(s) != null && o.isWorld(w) && o.isDay(d) && !once(4)) {
                        int at = o.next(s, w, d);
                        d = at < 0 ? d : at;
                    }
                    call("miss", s, w, d);
                    break;
                }
                case 12: call("waits", aWorld(), aDay(), in(1, 200)); break;
                case 13: call("choose", aShip(), aWorld(), in(1, 200), in(0, 1)); break;
                case 14: feedAndText(); break;
                case 15: call("force", in(0, o.laws.size() - 1)); break;
                case 16: call("fuel", in(0, 2), aShip(), aWorld(), aDay(), people()); break;
                case 17: case 18: call("soon", aWorld(), aWorld(), aDay(), people()); break;
                case 19: call("reach", aWorld(), aDay(), people(), once(3) ? in(0, 200) : in(0, 30)); break;
                case 20: case 21: call("least", aWorld(), aWorld(), aDay(), people(), in(0, 200)); break;
                case 22: case 23: edges(); break;
                case 24: call("bears", aWorld(), aWorld(), aDay(), people()); break;
                case 25: call("needed", aWorld(), aWorld(), aDay(), people()); break;
                case 26: case 27: toldWay(); break;
                case 28: catches(); break;
                case 29: call("trip", aWorld(), aWorld(), aDay(), people()); break;
                case 30: call("ride", in(0, o.trips.size() - 1), in(0, 2)); break;
                case 31: aboard(); break;
                case 32: call("book", aSet()); break;
                case 33:
                    if (once(2)) {
                        call("most", in(0, 1));
                    }
                    break;
                case 34: call("together", aWorld(), aWorld(), aDay(), people(), in(0, 1)); break;
                case 35: call("bread", aShip(), once(2) ? in(0, 999) : in(0, 60)); break;
                case 36: call("grow", aShip(), once(2) ? in(1, 9999) : in(1, 40)); break;
                case 37: call(once(2) ? "image" : "back"); break;
                case 38: call("sheet", aSheet(), in(once(3) ? -1 : 0, 2), in(once(9) ? -3 : 0, 40)); break;
                case 39: call("cell", aSheet(), in(0, 20), once(2) ? in(-70000, 70000) : in(-1, 300)); break;
                case 40:
                    if (once(2)) {
                        call("copy", aSheet(), in(0, 8), aSheet(), in(0, 8), in(-1, 20));
                    } else {
                        tripRow();
                    }
                    break;
                default: call("taken", in(0, 12), in(0, 6)); break;
            }
        }

        void edges() {
            int a = aWorld();
            int b = aWorld();
            int d = aDay();
            int n = people();
            int count = (int) call("edge", a, b, d, n, -1);
            call("edge", a, b, d, n, in(0, Math.max(0, 2 * count - 1)));
            call("edge", a, b, d, n, in(0, Math.max(0, 2 * count)));
        }

        void aboard() {
            int i = upTo(9);
            int ride = i < o.trips.size() ? o.ride(i, 0) : -1;
            if (ride >= 0 && !once(3)) {
                int from = o.ride(i, 1);
                int till = o.ride(i, 2);
                call("aboard", ride, from + by.nextInt(till - from + 2) - 1, aSet());
            } else {
                call("aboard", aShip(), aDay(), aSet());
            }
        }

        void fill(int s, int sort, int[] row) {
            call("sheet", s, sort, row.length);
            for (int i = 0; i < row.length; i++) {
                call("cell", s, i, row[i]);
            }
        }

        void catches() {
            int n = upTo(8);
            int[] row = new int[2 * n + (once(12) ? 1 : 0)];
            int span = 1 + upTo(once(2) ? 12 : 80);
            int from = once(4) ? aDay() : 0;
            int sort = once(8) ? 0 : once(3) ? 1 : 2;
            for (int i = 0; i < row.length; i++) {
                row[i] = i % 2 == 0 ? in(0, once(2) ? 0 : o.worlds.size() - 1) : from + by.nextInt(span);
            }
            int s = upTo(3);
            fill(s, sort, row);
            call("lacks", once(9) ? aSheet() : s);
            call("fewest", in(0, 1), once(9) ? aSheet() : s);
        }

        void tripRow() {
            int n = upTo(3);
            int ahead = upTo(2);
            int[] row = new int[ahead + 4 * n + upTo(3)];
            for (int i = 0; i < row.length; i++) {
                int k = (i - ahead) & 3;
                row[i] = k < 2 ? aWorld() : k == 2 ? aDay() : people();
            }
            int s = upTo(3);
            int sort = upTo(2);
            fill(s, sort, row);
            call("tripsBy", s, once(9) ? in(0, 2) : sort, once(9) ? in(0, 40) : ahead, once(5) ? in(0, 10) : n);
        }

        /** A way that can be gone, now and then spoilt, on a sheet. */
        void toldWay() {
            if (o.worlds.isEmpty()) {
                return;
            }
            int a = upTo(o.worlds.size() - 1);
            int b = upTo(o.worlds.size() - 1);
            int d = once(5) ? 19950 + upTo(50) : upTo(60);
            int n = 1 + upTo(once(3) ? 20 : 4);
            List<int[]> acts = new ArrayList<>();
            int spot = a;
            int till = d + 150;
            for (int day = d; day < till && acts.size() < 12; day++) {
                List<int[]> can = o.acts(spot, day, n);
                if (!can.isEmpty() && !once(4)) {
                    int[] one = can.get(by.nextInt(can.size()));
                    acts.add(one);
                    spot = one[1] == 1 ? one[2] : 4 + one[2];
                    if (spot < 4 && once(2)) {
                        b = once(8) ? b : spot;
                        break;
                    }
                }
            }
            int[] row = new int[3 * acts.size() + (once(25) ? 1 + upTo(1) : 0)];
            for (int i = 0; i < acts.size(); i++) {
                System.arraycopy(acts.get(i), 0, row, 3 * i, 3);
            }
            if (once(3) && row.length > 0) {
                row[by.nextInt(row.length)] += once(2) ? 1 : once(2) ? -1 : in(-3, 30000);
            }
            if (row.length > 40) {
                return;
            }
            int s = upTo(3);
            fill(s, d > 100 || once(2) ? 2 : once(2) ? 1 : 0, row);
            call("judge", once(20) ? aWorld() : a, b, once(20) ? aDay() : d, once(20) ? people() : n, once(25) ? aSheet() : s);
            call("toldFuel", a, b, d, n, once(25) ? aSheet() : s);
        }

        void feedAndText() {
            if (once(20)) {
                call("feed", by.nextLong(), in(1, 8));
            }
            if (o.tape.length() > 0 && once(2)) {
                call("text");
            }
            if (o.laws.size() >= 6 && !once(9)) {
                return;
            }
            String text = aText();
            for (int at = 0; at < text.length();) {
                int n = Math.min(1 + upTo(7), text.length() - at);
                long w = by.nextLong();
                for (int i = 0; i < n; i++) {
                    w = w << 8 | text.charAt(at + i);
                }
                call("feed", w, n);
                at += n;
            }
            call("text");
        }

        String aText() {
            StringBuilder to = new StringBuilder();
            int deep = once(3) ? 7 : 3;
            to.append("catch").append(gap(1)).append(anE(deep)).append(gap(0)).append(";").append(gap(0));
            to.append("drop").append(gap(1)).append(anE(2)).append(gap(0)).append(";").append(gap(0));
            to.append("change").append(gap(1)).append(anE(2)).append(gap(0)).append(";").append(gap(0));
            if (once(4)) {
                int at = by.nextInt(to.length());
                switch (upTo(3)) {
                    case 0: to.deleteCharAt(at); break;
                    case 1: to.setLength(at); break;
                    case 2: to.insert(at, "()+-*<=;qx09 not or 12345and/A".charAt(by.nextInt(30))); break;
                    default: to.insert(at, once(2) ? " not " : once(2) ? " (" : " -"); break;
                }
            }
            if (to.length() > 160) {
                to.setLength(160);
            }
            return to.toString();
        }

        String gap(int least) {
            int n = least + (once(4) ? upTo(2) : 0);
            StringBuilder to = new StringBuilder();
            for (int i = 0; i < n; i++) {
                to.append(once(5) ? '\n' : ' ');
            }
            return to.toString();
        }

        String anE(int deep) {
            if (deep <= 0 || once(5)) {
                String[] names = {"quick", "room", "day", "load", "ship", "world"};
                return once(2) ? names[upTo(5)] : Integer.toString(once(3) ? upTo(9999) : upTo(30));
            }
            switch (upTo(9)) {
                case 0: return anE(deep - 1) + " or " + anE(deep - 2);
                case 1: return anE(deep - 1) + " and " + anE(deep - 2);
                case 2: return "not " + anE(deep - 1);
                case 3: return "-" + anE(deep - 1);
                case 4: return "(" + anE(deep - 1) + ")";
                case 5: return "(" + anE(deep - 1) + ")" + gap(0) + "*" + anE(deep - 2);
                case 6: return anE(deep - 1) + (once(2) ? "<" : "=") + anE(deep - 2);
                case 7: return anE(deep - 1) + "-" + gap(0) + anE(deep - 2);
                case 8: return anE(deep - 1) + "*" + anE(deep - 2);
                default: return anE(deep - 1) + "+" + anE(deep - 2);
            }
        }

        long call(String name, long... a) {
            if (broken || calls >= 512) {
                return -1;
            }
            calls++;
            asked++;
            log.add(name + Arrays.toString(a));
            int[] i = new int[a.length];
            for (int k = 0; k < a.length; k++) {
                i[k] = (int) a[k];
            }
            int want = wanted(name, a, i);
            int got;
            try {
                got = Calls.ask(x, name, a);
            } catch (RuntimeException e) {
                e.printStackTrace(System.out);
                got = Integer.MIN_VALUE;
            }
            if (want >= -1) {
                for (int k = 0; k < NAMES.length; k++) {
                    if (NAMES[k].equals(name)) {
                        kinds[k]++;
                    }
                }
            }
            if (got != want) {
                wrong++;
                broken = true;
                System.out.println("seed " + seed + ": " + log.get(log.size() - 1) + " answered " + got + ", due is " + want);
                System.out.println("  behind: " + log);
            }
            return want;
        }

        int wanted(String name, long[] a, int[] i) {
            switch (name) {
                case "world": return o.world(i[0], i[1]);
                case "port": return o.port(i[0], i[1], i[2]);
                case "ship": return o.ship(i[0], i[1], i[2], i[3]);
                case "loop": return o.loop(i[0], i[1], i[2], i[3]);
                case "turn": return o.turn(i[0], i[1]);
                case "shipTold": return o.shipTold(i[0], i[1]);
                case "count": return o.count(i[0]);
                case "passes": return o.passes(i[0], i[1]);
                case "here": return o.here(i[0], i[1]);
                case "often": return o.often(i[0], i[1], i[2], i[3]);
                case "next": return o.next(i[0], i[1], i[2]);
                case "meets": return o.meets(i[0], i[1], i[2], i[3]);
                case "seldom": return o.seldom(i[0], i[1]);
                case "miss": return o.miss(i[0], i[1], i[2]);
                case "waits": return o.waits(i[0], i[1], i[2]);
                case "choose": return o.choose(i[0], i[1], i[2], i[3]);
                case "feed": return o.feed(a[0], i[1]);
                case "text": return o.text();
                case "force": return o.force(i[0]);
                case "fuel": return o.fuel(i[0], i[1], i[2], i[3], i[4]);
                case "soon": return o.soon(i[0], i[1], i[2], i[3]);
                case "reach": return o.reach(i[0], i[1], i[2], i[3]);
                case "least": return o.least(i[0], i[1], i[2], i[3], i[4]);
                case "edge": return o.edge(i[0], i[1], i[2], i[3], i[4]);
                case "bears": return o.bears(i[0], i[1], i[2], i[3]);
                case "needed": return o.needed(i[0], i[1], i[2], i[3]);
                case "judge": return o.judge(i[0], i[1], i[2], i[3], i[4]);
                case "toldFuel": return o.toldFuel(i[0], i[1], i[2], i[3], i[4]);
                case "fewest": return o.fewest(i[0], i[1]);
                case "lacks": return o.lacks(i[0]);
                case "trip": return o.trip(i[0], i[1], i[2], i[3]);
                case "ride": return o.ride(i[0], i[1]);
                case "aboard": return o.aboard(i[0], i[1], i[2]);
                case "book": return o.book(i[0]);
                case "most": return o.most(i[0]);
                case "together": return o.together(i[0], i[1], i[2], i[3], i[4]);
                case "bread": return o.bread(i[0], i[1]);
                case "grow": return o.grow(i[0], i[1]);
                case "image": return o.image();
                case "back": return o.back();
                case "sheet": return o.sheet(i[0], i[1], i[2]);
                case "cell": return o.cell(i[0], i[1], i[2]);
                case "copy": return o.copy(i[0], i[1], i[2], i[3], i[4]);
                case "tripsBy": return o.tripsBy(i[0], i[1], i[2], i[3]);
                case "taken": return o.taken(i[0], i[1]);
                default: throw new IllegalStateException(name);
            }
        }
    }

    /** The document, as slowly and plainly as it can be told. */
    static final class Oracle {
        static class Ship {
            int round, more, has, turned;
            int[] phase = {-1, -1, -1, -1};
            int[] speed = new int[4];

            int kind() { return 0; }
            int later(int d) { return 0; }
            boolean passes(int w, int d) {
                return phase[w] != -1 && d % round == (phase[w] + turned + later(d)) % round;
            }
            int quick(int w) { return speed[w]; }
            int room() { return has; }
        }

        static class Slow extends Ship {
            int kind() { return 1; }
            int quick(int w) { return super.quick(w) / 2; }
        }

        static class Great extends Ship {
            int kind() { return 2; }
            int room() { return 2 * super.room(); }
        }

        static class Turner extends Ship {
            int kind() { return 3; }
            int later(int d) { return d / round % 2 == 1 ? more : 0; }
        }

        static class Shy extends Great {
            int kind() { return 4; }
            boolean passes(int w, int d) { return w != more % 4 && super.passes(w, d); }
        }

        static class Breather extends Turner {
            int kind() { return 5; }
            int quick(int w) { return super.quick(w) + more % 10; }
            int room() { return super.room() == 0 ? 0 : super.room() - 1; }
        }

        interface Value {
            int of(Map<String, Integer> names);
        }

        static final class Fault extends Exception {
            final int place;

            Fault(int place) {
                this.place = place;
            }
        }

        /** A program for both ships as they may meet: no two meet later than this behind any day. */
        static final int LONG = 2 * 60 * 60 + 121;

        final List<int[]> worlds = new ArrayList<>();
        final List<Ship> ships = new ArrayList<>();
        final List<int[]> trips = new ArrayList<>();
        final List<Value[]> laws = new ArrayList<>();
        final Object[] sheets = new Object[4];
        StringBuilder tape = new StringBuilder();
        int law = 0;
        int[][] kept = null;
        int out = -1;

        Oracle() {
            try {
                laws.add(new Text("catch 3 + quick * 2 ; drop 1 + quick ; change 2 ; ").read());
            } catch (Fault f) {
                throw new IllegalStateException(f);
            }
        }

        boolean isWorld(int w) { return w >= 0 && w < worlds.size(); }
        boolean isDay(int d) { return d >= 0 && d <= 20000; }
        Ship shipOf(int s) { return s >= 0 && s < ships.size() ? ships.get(s) : null; }
        boolean from(int a, int d, int n) { return isWorld(a) && isDay(d) && n >= 1 && n <= 99; }

        int world(int n, int days) {
            if (n < 0 || n > 9 || days < 1 || days > 99) return -2;
            if (worlds.size() == 4) return -4;
            worlds.add(new int[] {n, days});
            return worlds.size() - 1;
        }

        int port(int w, int what, int v) {
            if (!isWorld(w)) return -5;
            if (what != 0 && what != 1) return -7;
            if (what == 0 ? v < 0 || v > 9 : v < 1 || v > 99) return -7;
            int was = worlds.get(w)[what];
            worlds.get(w)[what] = v;
            return was;
        }

        int ship(int kind, int round, int more, int has) {
            if (kind < 0 || kind > 5 || round < 2 || round > 60 || more < 0 || more > 29 || has < 0 || has > 99) return -2;
            if (ships.size() == 9) return -4;
            Ship[] of = {new Ship(), new Slow(), new Great(), new Turner(), new Shy(), new Breather()};
            Ship it = of[kind];
            it.round = round;
            it.more = more;
            it.has = has;
            ships.add(it);
            return ships.size() - 1;
        }

        int loop(int s, int w, int day, int quick) {
            if (shipOf(s) == null) return -5;
            if (!isWorld(w)) return -7;
            if (day < -1 || day > shipOf(s).round - 1 || quick < 0 || quick > 9) return -2;
            int was = shipOf(s).phase[w];
            shipOf(s).phase[w] = day;
            shipOf(s).speed[w] = quick;
            return was;
        }

        int turn(int s, int d) {
            if (shipOf(s) == null) return -5;
            if (d < 0 || d > shipOf(s).round - 1) return -7;
            int was = shipOf(s).turned;
            shipOf(s).turned = d;
            return was;
        }

        int shipTold(int s, int what) {
            Ship it = shipOf(s);
            if (it == null) return -5;
            if (what < 0 || what > 12) return -7;
            int[] all = {it.kind(), it.round, it.more, it.room(), it.turned, it.phase[0], it.phase[1], it.phase[2], it.phase[3],
                it.quick(0), it.quick(1), it.quick(2), it.quick(3)};
            return all[what];
        }

        int count(int what) {
            if (what < 0 || what > 5) return -2;
            return new int[] {worlds.size(), ships.size(), trips.size(), laws.size(), law, tape.length()}[what];
        }

        int passes(int s, int d) {
            if (shipOf(s) == null) return -5;
            if (!isDay(d)) return -7;
            int bits = 0;
            for (int w = 0; w < worlds.size(); w++) {
                if (shipOf(s).passes(w, d)) bits += 1 << w;
            }
            return bits;
        }

        int here(int w, int d) {
            if (!isWorld(w)) return -5;
            if (!isDay(d)) return -7;
            int bits = 0;
            for (int s = 0; s < ships.size(); s++) {
                if (ships.get(s).passes(w, d)) bits += 1 << s;
            }
            return bits;
        }

        int often(int s, int w, int d, int n) {
            if (shipOf(s) == null || !isWorld(w)) return -5;
            if (!isDay(d) || n < 0 || n > 4000) return -7;
            int times = 0;
            for (int i = 0; i < n; i++) {
                if (shipOf(s).passes(w, d + i)) times++;
            }
            return times;
        }

        int firstDay(Ship it, int w, int d) {
            for (int i = 0; i < 300; i++) {
                if (it.passes(w, d + i)) return d + i;
            }
            return -1;
        }

        int firstBoth(Ship one, Ship other, int w, int d) {
            for (int i = 0; i < LONG; i++) {
                if (one.passes(w, d + i) && other.passes(w, d + i)) return d + i;
            }
            return -1;
        }

        int next(int s, int w, int d) {
            if (shipOf(s) == null || !isWorld(w)) return -5;
            if (!isDay(d)) return -7;
            return firstDay(shipOf(s), w, d);
        }

        int meets(int a, int b, int w, int d) {
            if (shipOf(a) == null || shipOf(b) == null || a == b || !isWorld(w)) return -5;
            if (!isDay(d)) return -7;
            return firstBoth(shipOf(a), shipOf(b), w, d);
        }

        int seldom(int w, int what) {
            if (!isWorld(w)) return -5;
            if (what != 0 && what != 1) return -7;
            int pair = -1;
            int most = -1;
            for (int a = 0; a < ships.size(); a++) {
                for (int b = a + 1; b < ships.size(); b++) {
                    int first = firstBoth(ships.get(a), ships.get(b), w, 0);
                    if (first == -1) continue;
                    int days = firstBoth(ships.get(a), ships.get(b), w, first + 1) - first;
                    if (days > most) {
                        most = days;
                        pair = 10 * a + b;
                    }
                }
            }
            return what == 0 ? pair : most;
        }

        int miss(int s, int w, int d) {
            if (shipOf(s) == null || !isWorld(w)) return -5;
            if (!isDay(d)) return -7;
            if (!shipOf(s).passes(w, d)) return -3;
            int later = 1;
            while (!shipOf(s).passes(w, d + later)) later++;
            return later;
        }

        int longest(int w, int d, int n) {
            int best = 0;
            for (int i = 0; i < n; i++) {
                int row = 0;
                for (int k = i; k < n; k++) {
                    boolean any = false;
                    for (Ship it : ships) any |= it.passes(w, d + k);
                    if (any) break;
                    row++;
                }
                best = Math.max(best, row);
                i += row;
            }
            return best;
        }

        int waits(int w, int d, int n) {
            if (!isWorld(w)) return -5;
            if (!isDay(d) || n < 1 || n > 200) return -7;
            return longest(w, d, n);
        }

        int choose(int s, int w, int n, int what) {
            if (shipOf(s) == null || !isWorld(w)) return -5;
            if (n < 1 || n > 200 || what < 0 || what > 1) return -7;
            int was = shipOf(s).turned;
            int best = -1;
            int least = 0;
            for (int t = shipOf(s).round - 1; t >= 0; t--) {
                shipOf(s).turned = t;
                int row = longest(w, 0, n);
                if (best == -1 || row <= least) {
                    best = t;
                    least = row;
                }
            }
            shipOf(s).turned = was;
            return what == 0 ? best : least;
        }

        int feed(long w, int n) {
            if (n < 1 || n > 8) return -2;
            if (tape.length() + n > 160) return -4;
            StringBuilder add = new StringBuilder();
            for (int i = 0; i < n; i++) {
                add.insert(0, (char) (w & 255));
                w >>= 8;
            }
            tape.append(add);
            return tape.length();
        }

        int text() {
            if (laws.size() == 6) return -4;
            String all = tape.toString();
            tape = new StringBuilder();
            try {
                laws.add(new Text(all).read());
            } catch (Fault f) {
                return -100 - f.place;
            }
            return laws.size() - 1;
        }

        int force(int t) {
            if (t < 0 || t >= laws.size()) return -2;
            int was = law;
            law = t;
            return was;
        }

        int cost(int part, int s, int w, int d, int n) {
            Map<String, Integer> names = new HashMap<>();
            names.put("quick", ships.get(s).quick(w));
            names.put("room", ships.get(s).room());
            names.put("day", d);
            names.put("load", n);
            names.put("ship", s);
            names.put("world", w);
            int v = laws.get(law)[part].of(names);
            return v < 0 ? 0 : v > 99 ? 99 : v;
        }

        int fuel(int part, int s, int w, int d, int n) {
            if (part < 0 || part > 2) return -2;
            if (shipOf(s) == null || !isWorld(w)) return -5;
            if (!isDay(d) || n < 1 || n > 99) return -7;
            return cost(part, s, w, d, n);
        }

        /** All acts from a spot (a world, or 4 and a ship) on a day: day, what, whom, FUEL told, least FUEL. */
        List<int[]> acts(int spot, int day, int n) {
            List<int[]> can = new ArrayList<>();
            if (spot < 4) {
                for (int s = 0; s < ships.size(); s++) {
                    if (s != out && ships.get(s).passes(spot, day) && ships.get(s).room() >= n) {
                        int fuel = cost(0, s, spot, day, n);
                        can.add(new int[] {day, 0, s, fuel, fuel});
                    }
                }
                return can;
            }
            Ship on = ships.get(spot - 4);
            for (int w = 0; w < worlds.size(); w++) {
                if (on.passes(w, day)) {
                    int fuel = cost(1, spot - 4, w, day, n);
                    can.add(new int[] {day, 1, w, fuel, fuel});
                }
            }
            for (int s = 0; s < ships.size(); s++) {
                if (s == out || s == spot - 4 || ships.get(s).room() < n) continue;
                int told = -1;
                int least = 1000;
                for (int w = 0; w < worlds.size(); w++) {
                    if (on.passes(w, day) && ships.get(s).passes(w, day)) {
                        int fuel = cost(2, s, w, day, n);
                        told = told == -1 ? fuel : told;
                        least = Math.min(least, fuel);
                    }
                }
                if (told != -1) can.add(new int[] {day, 2, s, told, least});
            }
            return can;
        }

        static int spotOf(int[] act) { return act[1] == 1 ? act[2] : 4 + act[2]; }

        /** Spots one may be at behind so many days. */
        Set<Integer> spots(int a, int d, int n, int days) {
            Set<Integer> at = new HashSet<>();
            at.add(a);
            for (int t = 0; t < days; t++) {
                Set<Integer> then = new HashSet<>(at);
                for (int spot : at) {
                    for (int[] act : acts(spot, d + t, n)) then.add(spotOf(act));
                }
                at = then;
            }
            return at;
        }

        int soonest(int a, int b, int d, int n) {
            if (a == b) return d;
            Set<Integer> at = new HashSet<>();
            at.add(a);
            for (int t = 0; t < 200; t++) {
                Set<Integer> then = new HashSet<>(at);
                for (int spot : at) {
                    for (int[] act : acts(spot, d + t, n)) then.add(spotOf(act));
                }
                at = then;
                if (at.contains(b)) return d + t;
            }
            return -1;
        }

        int soon(int a, int b, int d, int n) {
            return !from(a, d, n) || !isWorld(b) ? -5 : soonest(a, b, d, n);
        }

        int reach(int a, int d, int n, int days) {
            if (!from(a, d, n)) return -5;
            if (days < 0 || days > 200) return -7;
            int bits = 0;
            for (int spot : spots(a, d, n, days)) {
                if (spot < 4) bits |= 1 << spot;
            }
            return bits;
        }

        /** For each of so many days the least FUEL with which one comes to b by that day's act (null: none). */
        Integer[] arrivals(int a, int b, int d, int n, int days) {
            Integer[] come = new Integer[days];
            Map<Integer, Integer> at = new HashMap<>();
            at.put(a, 0);
            for (int t = 0; t < days; t++) {
                Map<Integer, Integer> then = new HashMap<>(at);
                for (Map.Entry<Integer, Integer> e : at.entrySet()) {
                    for (int[] act : acts(e.getKey(), d + t, n)) {
                        int to = spotOf(act);
                        int sum = e.getValue() + act[4];
                        then.merge(to, sum, Math::min);
                        if (to == b && (come[t] == null || sum < come[t])) come[t] = sum;
                    }
                }
                at = then;
            }
            return come;
        }

        int least(int a, int b, int d, int n, int days) {
            if (!from(a, d, n) || !isWorld(b)) return -5;
            if (days < 0 || days > 200) return -7;
            if (a == b) return 0;
            int least = -1;
            for (Integer sum : arrivals(a, b, d, n, days)) {
                if (sum != null && (least == -1 || sum < least)) least = sum;
            }
            return least;
        }

        int edge(int a, int b, int d, int n, int what) {
            if (!from(a, d, n) || !isWorld(b) || a == b) return -5;
            List<Integer> all = new ArrayList<>();
            Integer[] come = arrivals(a, b, d, n, 200);
            for (int t = 0; t < 200; t++) {
                boolean less = come[t] != null;
                for (int k = 0; k < t && less; k++) {
                    if (come[k] != null && come[k] <= come[t]) less = false;
                }
                if (less) {
                    all.add(d + t);
                    all.add(come[t]);
                }
            }
            if (what == -1) return all.size() / 2;
            return what < 0 || what >= all.size() ? -7 : all.get(what);
        }

        int bears(int a, int b, int d, int n) {
            if (!from(a, d, n) || !isWorld(b)) return -5;
            int last = soonest(a, b, d, n);
            boolean never = last == -1;
            for (int s = 0; s < ships.size(); s++) {
                out = s;
                int day = soonest(a, b, d, n);
                never |= day == -1;
                last = Math.max(last, day);
            }
            out = -1;
            return never ? -1 : last;
        }

        int needed(int a, int b, int d, int n) {
            if (!from(a, d, n) || !isWorld(b)) return -5;
            int bits = 0;
            for (int s = 0; s < ships.size(); s++) {
                out = s;
                if (soonest(a, b, d, n) == -1) bits |= 1 << s;
            }
            out = -1;
            return bits;
        }

        int[] numbers(int s) {
            if (sheets[s] instanceof byte[]) {
                byte[] row = (byte[]) sheets[s];
                int[] all = new int[row.length];
                for (int i = 0; i < row.length; i++) all[i] = Byte.toUnsignedInt(row[i]);
                return all;
            }
            if (sheets[s] instanceof short[]) {
                short[] row = (short[]) sheets[s];
                int[] all = new int[row.length];
                for (int i = 0; i < row.length; i++) all[i] = row[i];
                return all;
            }
            return ((int[]) sheets[s]).clone();
        }

        int fuelOfWay;

        int judge(int a, int b, int d, int n, int s) {
            if (!from(a, d, n) || !isWorld(b)) return -5;
            if (s < 0 || s > 3) return -2;
            if (sheets[s] == null) return -11;
            int[] row = numbers(s);
            if (row.length % 3 != 0) return -2;
            fuelOfWay = 0;
            int spot = a;
            int last = -1;
            for (int i = 0; i < row.length; i += 3) {
                int day = row[i];
                if (!isDay(day) || day < d || day <= last) return i / 3;
                int[] done = null;
                for (int[] act : acts(spot, day, n)) {
                    if (act[1] == row[i + 1] && act[2] == row[i + 2]) done = act;
                }
                if (done == null) return i / 3;
                fuelOfWay += done[3];
                spot = spotOf(done);
                last = day;
            }
            return spot == b ? -1 : row.length / 3;
        }

        int toldFuel(int a, int b, int d, int n, int s) {
            int said = judge(a, b, d, n, s);
            if (said < -1) return said;
            return said == -1 ? fuelOfWay : -3;
        }

        int refuseCatches(int s) {
            if (s < 0 || s > 3) return -2;
            if (sheets[s] == null) return -11;
            int[] row = numbers(s);
            if (row.length % 2 != 0) return -2;
            for (int i = 0; i < row.length; i += 2) {
                if (!isWorld(row[i]) || !isDay(row[i + 1])) return -2;
            }
            return 0;
        }

        /** Boat by boat: the first CATCH, of those of a world (-1: of all), that finds none. */
        int firstLack(int[] row, int[] boats, int only) {
            List<List<Integer>> free = new ArrayList<>();
            for (int b : boats) {
                List<Integer> from = new ArrayList<>();
                for (int i = 0; i < b; i++) from.add(0);
                free.add(from);
            }
            for (int day = 0; day <= 20000; day++) {
                for (int i = 0; i < row.length; i += 2) {
                    if (row[i + 1] != day || (only != -1 && row[i] != only)) continue;
                    List<Integer> from = free.get(row[i]);
                    int took = -1;
                    for (int k = 0; k < from.size() && took == -1; k++) {
                        if (from.get(k) <= day) took = k;
                    }
                    if (took == -1) return i / 2;
                    from.set(took, day + worlds.get(row[i])[1]);
                }
            }
            return -1;
        }

        int fewest(int w, int s) {
            if (!isWorld(w)) return -5;
            if (refuseCatches(s) != 0) return refuseCatches(s);
            int[] boats = new int[worlds.size()];
            while (firstLack(numbers(s), boats, w) != -1) boats[w]++;
            return boats[w];
        }

        int lacks(int s) {
            if (refuseCatches(s) != 0) return refuseCatches(s);
            int[] boats = new int[worlds.size()];
            for (int w = 0; w < boats.length; w++) boats[w] = worlds.get(w)[0];
            return firstLack(numbers(s), boats, -1);
        }

        int trip(int a, int b, int d, int n) {
            if (!from(a, d, n) || !isWorld(b) || a == b) return -2;
            if (trips.size() == 10) return -4;
            trips.add(new int[] {a, b, d, n});
            return trips.size() - 1;
        }

        int[] rideOf(int[] trip) {
            int[] best = {-1, -1, -1};
            for (int s = 0; s < ships.size(); s++) {
                if (ships.get(s).room() < trip[3]) continue;
                int on = firstDay(ships.get(s), trip[0], trip[2]);
                int off = on == -1 ? -1 : firstDay(ships.get(s), trip[1], on + 1);
                if (off != -1 && (best[0] == -1 || off < best[2])) best = new int[] {s, on, off};
            }
            return best;
        }

        int ride(int i, int what) {
            if (i < 0 || i >= trips.size()) return -5;
            if (what < 0 || what > 2) return -7;
            return rideOf(trips.get(i))[what];
        }

        int peopleAboard(int s, int d, int set) {
            int people = 0;
            for (int i = 0; i < trips.size(); i++) {
                if ((set & 1 << i) == 0) continue;
                int[] ride = rideOf(trips.get(i));
                if (ride[0] == s && ride[1] <= d && d <= ride[2] - 1) people += trips.get(i)[3];
            }
            return people;
        }

        int aboard(int s, int d, int set) {
            if (shipOf(s) == null) return -5;
            if (!isDay(d) || set < 0 || set >= 1 << trips.size()) return -7;
            return peopleAboard(s, d, set);
        }

        int book(int set) {
            if (set < 0 || set >= 1 << trips.size()) return -2;
            for (int i = 0; i < trips.size(); i++) {
                if ((set & 1 << i) == 0) continue;
                int[] ride = rideOf(trips.get(i));
                if (ride[0] == -1) return 100 + i;
                if (peopleAboard(ride[0], ride[1], set) > ships.get(ride[0]).room()) return i;
            }
            return -1;
        }

        int most(int what) {
            if (what < 0 || what > 1) return -2;
            int best = 0;
            int most = 0;
            for (int set = (1 << trips.size()) - 1; set > 0; set--) {
                int people = 0;
                for (int i = 0; i < trips.size(); i++) {
                    if ((set & 1 << i) != 0) people += trips.get(i)[3];
                }
                if (people >= most && book(set) == -1) {
                    best = set;
                    most = people;
                }
            }
            return what == 0 ? best : most;
        }

        int together(int a, int b, int d, int n, int what) {
            if (!from(a, d, n) || !isWorld(b) || a == b || what < 0 || what > 1) return -5;
            for (int t = 0; t < 300; t++) {
                for (int s = 0; s < ships.size(); s++) {
                    if (ships.get(s).room() >= n && ships.get(s).passes(a, d + t) && firstDay(ships.get(s), b, d + t + 1) != -1) {
                        return what == 0 ? d + t : s;
                    }
                }
            }
            return -1;
        }

        int daysOfBread(int room, int n, int days) {
            int bread = 10 * room;
            for (int day = 1; day <= days; day++) {
                bread += room / 2 - n;
                if (bread < 0) return day;
            }
            return -1;
        }

        int bread(int s, int n) {
            if (shipOf(s) == null) return -5;
            if (n < 0 || n > 999) return -7;
            return daysOfBread(shipOf(s).room(), n, 5000);
        }

        int grow(int s, int days) {
            if (shipOf(s) == null) return -5;
            if (days < 1 || days > 9999) return -7;
            int n = 0;
            while (n < 999 && daysOfBread(shipOf(s).room(), n + 1, days) == -1) n++;
            return n;
        }

        int image() {
            kept = new int[4][];
            kept[0] = ships.stream().mapToInt(it -> it.turned).toArray();
            kept[1] = worlds.stream().mapToInt(it -> it[0]).toArray();
            kept[2] = worlds.stream().mapToInt(it -> it[1]).toArray();
            kept[3] = new int[] {trips.size(), law};
            return ships.size();
        }

        int back() {
            if (kept == null) return -3;
            for (int s = 0; s < kept[0].length; s++) ships.get(s).turned = kept[0][s];
            for (int w = 0; w < kept[1].length; w++) {
                worlds.get(w)[0] = kept[1][w];
                worlds.get(w)[1] = kept[2][w];
            }
            while (trips.size() > kept[3][0]) trips.remove(trips.size() - 1);
            law = kept[3][1];
            return ships.size();
        }

        int sheet(int s, int sort, int n) {
            if (s < 0 || s > 3 || sort < -1 || sort > 2) return -2;
            if (sort == -1) {
                sheets[s] = null;
                return 1;
            }
            if (n > 40) return -2;
            if (n < 0) return -14;
            sheets[s] = sort == 0 ? new byte[n] : sort == 1 ? new short[n] : new int[n];
            return 1;
        }

        int cell(int s, int i, int v) {
            if (s < 0 || s > 3) return -2;
            if (sheets[s] == null) return -11;
            if (i < 0 || i >= numbers(s).length) return -12;
            if (sheets[s] instanceof byte[]) ((byte[]) sheets[s])[i] = (byte) v;
            else if (sheets[s] instanceof short[]) ((short[]) sheets[s])[i] = (short) v;
            else ((int[]) sheets[s])[i] = v;
            return 1;
        }

        int copy(int s, int i, int other, int j, int n) {
            if (s < 0 || s > 3 || other < 0 || other > 3) return -2;
            if (sheets[s] == null || sheets[other] == null) return -11;
            if (sheets[s].getClass() != sheets[other].getClass()) return -13;
            int[] from = numbers(s);
            int size = numbers(other).length;
            if (i < 0 || j < 0 || n < 0 || (long) i + n > from.length || (long) j + n > size) return -12;
            for (int k = 0; k < n; k++) cell(other, j + k, from[i + k]);
            return n;
        }

        int tripsBy(int s, int sort, int at, int n) {
            if (s < 0 || s > 3 || sort < 0 || sort > 2 || n < 0 || n > 10) return -2;
            if (sheets[s] == null) return -11;
            Class<?>[] of = {byte[].class, short[].class, int[].class};
            if (sheets[s].getClass() != of[sort]) return -13;
            int[] row = numbers(s);
            int came = 0;
            for (int k = 0; k < n; k++) {
                long i = at + 4L * k;
                if (i < 0 || i + 3 >= row.length) return -12;
                int p = (int) i;
                if (trip(row[p], row[p + 1], row[p + 2], row[p + 3]) >= 0) came++;
            }
            return came;
        }

        int taken(int i, int kind) {
            if (kind < 0 || kind > 6) return -2;
            if (i < 0 || i > 12) return -12;
            Object it = i < 4 ? (isWorld(i) ? worlds.get(i) : null) : shipOf(i - 4);
            if (it == null) return -11;
            Class<?>[] of = {Ship.class, Slow.class, Great.class, Turner.class, Shy.class, Breather.class, int[].class};
            if (!of[kind].isInstance(it)) return -13;
            return kind == 6 ? ((int[]) it)[0] : i - 4;
        }

        /** Reads a TEXT from all its TOKENS at once. */
        static final class Text {
            final String all;
            final List<String> tokens = new ArrayList<>();
            final List<Integer> places = new ArrayList<>();
            int i = 0;

            Text(String all) {
                this.all = all;
                int p = 0;
                while (p < all.length()) {
                    char c = all.charAt(p);
                    if (c == ' ' || c == '\n') {
                        p++;
                        continue;
                    }
                    int q = p + 1;
                    if (c >= 'a' && c <= 'z') {
                        while (q < all.length() && all.charAt(q) >= 'a' && all.charAt(q) <= 'z') q++;
                    } else if (c >= '0' && c <= '9') {
                        while (q < all.length() && all.charAt(q) >= '0' && all.charAt(q) <= '9') q++;
                    }
                    tokens.add(all.substring(p, q));
                    places.add(p);
                    p = q;
                }
            }

            String now() { return i < tokens.size() ? tokens.get(i) : ""; }
            Fault fault() { return new Fault(i < places.size() ? places.get(i) : all.length()); }
            boolean skip(String token) {
                boolean is = now().equals(token);
                if (is) i++;
                return is;
            }
            void must(String token) throws Fault {
                if (!skip(token)) throw fault();
            }

            Value[] read() throws Fault {
                Value[] parts = new Value[3];
                String[] keys = {"catch", "drop", "change"};
                for (int k = 0; k < 3; k++) {
                    must(keys[k]);
                    parts[k] = or(0);
                    must(";");
                }
                if (!now().isEmpty()) throw fault();
                return parts;
            }

            Value or(int open) throws Fault {
                List<Value> of = new ArrayList<>();
                do of.add(and(open)); while (skip("or"));
                if (of.size() == 1) return of.get(0);
                return names -> of.stream().anyMatch(v -> v.of(names) != 0) ? 1 : 0;
            }

            Value and(int open) throws Fault {
                List<Value> of = new ArrayList<>();
                do of.add(not(open)); while (skip("and"));
                if (of.size() == 1) return of.get(0);
                return names -> of.stream().allMatch(v -> v.of(names) != 0) ? 1 : 0;
            }

            Value not(int open) throws Fault {
                if (now().equals("not")) {
                    if (open == 5) throw fault();
                    i++;
                    Value v = not(open + 1);
                    return names -> v.of(names) == 0 ? 1 : 0;
                }
                Value a = sum(open);
                if (skip("<")) {
                    Value b = sum(open);
                    return names -> a.of(names) < b.of(names) ? 1 : 0;
                }
                if (skip("=")) {
                    Value b = sum(open);
                    return names -> a.of(names) == b.of(names) ? 1 : 0;
                }
                return a;
            }

            Value sum(int open) throws Fault {
                Value v = term(open);
                while (now().equals("+") || now().equals("-")) {
                    int sign = tokens.get(i++).equals("+") ? 1 : -1;
                    Value a = v;
                    Value b = term(open);
                    v = names -> a.of(names) + sign * b.of(names);
                }
                return v;
            }

            Value term(int open) throws Fault {
                Value v = one(open);
                while (skip("*")) {
                    Value a = v;
                    Value b = one(open);
                    v = names -> a.of(names) * b.of(names);
                }
                return v;
            }

            Value one(int open) throws Fault {
                String t = now();
                if (t.matches("[0-9]{1,4}")) {
                    i++;
                    int n = Integer.parseInt(t);
                    return names -> n;
                }
                if (Arrays.asList("quick", "room", "day", "load", "ship", "world").contains(t)) {
                    i++;
                    return names -> names.get(t);
                }
                if (!t.equals("-") && !t.equals("(")) throw fault();
                if (open == 5) throw fault();
                i++;
                if (t.equals("-")) {
                    Value v = one(open + 1);
                    return names -> -v.of(names);
                }
                Value v = or(open + 1);
                must(")");
                return v;
            }
        }
    }
}
