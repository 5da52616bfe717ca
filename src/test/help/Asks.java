/** What the tests share: answers held against those that are due, and objects to ask. */
abstract class Asks {
    static int wrong = 0;
    static int asked = 0;

    static void due(String what, long got, long want) {
        asked++;
        if (got != want) {
            wrong++;
            System.out.println(what + " answered " + got + ", due is " + want);
        }
    }

    static void must(boolean is, String what) {
        if (!is) {
            wrong++;
            System.out.println("not so: " + what);
        }
    }

    /** The last line of a test; ends with exit code 1, if an answer was wrong. */
    static void end() {
        System.out.println(asked + " answers asked, " + wrong + " wrong");
        if (wrong != 0) {
            System.exit(1);
        }
    }

    /** An object with so many worlds, each with one boat that is ready the next day. */
    static NeverStop worlds(int n) {
        NeverStop x = new NeverStop();
        for (int w = 0; w < n; w++) {
            x.world(1, 1);
        }
        return x;
    }

    /** A ship that passes the worlds 0, 1, .. on these PHASES, of SPEED 0: its number. */
    static int ship(NeverStop x, int kind, int round, int more, int has, int... phases) {
        int s = x.ship(kind, round, more, has);
        for (int w = 0; w < phases.length; w++) {
            x.loop(s, w, phases[w], 0);
        }
        return s;
    }

    /** A ship of KIND 0. */
    static int plain(NeverStop x, int round, int has, int... phases) {
        return ship(x, 0, round, 0, has, phases);
    }

    /** Puts a text's bytes behind THE TAPE's: how many it has. */
    static int feedAll(NeverStop x, String text) {
        int size = x.count(5);
        for (int at = 0; at < text.length(); at += 8) {
            int n = Math.min(8, text.length() - at);
            long w = 0;
            for (int i = 0; i < n; i++) {
                w = w << 8 | text.charAt(at + i);
            }
            size = x.feed(w, n);
        }
        return size;
    }

    static int textOf(NeverStop x, String text) {
        feedAll(x, text);
        return x.text();
    }

    /** Makes a text THE LAW. */
    static void lawOf(NeverStop x, String text) {
        x.force(textOf(x, text));
    }

    static void row(NeverStop x, int s, int sort, int... values) {
        x.sheet(s, sort, values.length);
        for (int i = 0; i < values.length; i++) {
            x.cell(s, i, values[i]);
        }
    }
}
