import java.io.IOException;

/** Sentence by sentence, what the document's terms tell: the last that is so, and the first that isn't. */
public final class TermsTest extends Sentences {
    private static final String TERMS = "Terms", WHAT = "What it is";
    private static final String REST = ";drop 1;change 1;";
    /** 2147483647, the last int. */
    private static final String LAST_INT = "9999*9999*21+9999*4790+8416";

    public static void main(String[] args) throws IOException {
        calls();
        days();
        daysThatAreNone();
        worlds();
        ships();
        turned();
        phases();
        plainShips();
        slowGreat();
        turners();
        shy();
        breathers();
        asAbove();
        tape();
        words();
        numbers();
        signs();
        blanks();
        wholeTexts();
        grammar();
        names();
        ints();
        faultsOfTokens();
        faultsOfBytes();
        opens();
        opensEnd();
        sixTexts();
        firstText();
        fuelBounds();
        fuelNames();
        fuelOfChanges();
        soMany();
        notStarts();
        onceADay();
        catches();
        drops();
        changes();
        anyWorld();
        rooms();
        behindTheAct();
        atFirst();
        withinDays();
        edgeDays();
        edgeFuel();
        toldWays();
        toldActs();
        toldDays();
        toldWhom();
        toldImpossible();
        toldEnd();
        catchesBySheet();
        boatsAgain();
        tenTrips();
        rideRoom();
        rideDays();
        rideSoonest();
        aboardDays();
        bread();
        imageKeeps();
        cameSince();
        missingSheets();
        sorts();
        firstRefusal();
        hostRefusals();
        changeNothing();
        end(TERMS);
    }

    private static void calls() {
        says(WHAT, "An object is used for at most 512 calls after it has been made");
        NeverStop x = new NeverStop();
        x.ship(0, 60, 0, 1);
        for (int call = 2; call <= 512; call++) {
            due("call " + call, x.turn(0, call % 60), call == 2 ? 0 : (call - 1) % 60);
        }
    }

    // ---- days, worlds, ships

    /** Two ships of a round of two days: world 0 on even days, world 1 on odd ones. */
    private static NeverStop toAndFro() {
        NeverStop x = worlds(2);
        plain(x, 2, 9, 0, 1);
        plain(x, 2, 9, 0, 1);
        row(x, 0, 2);
        return x;
    }

    private static void days() {
        says(TERMS, "20000 (as they are told; they go on behind that).");
        for (int d : new int[] {0, 20000}) {
            NeverStop x = toAndFro();
            due("passes on " + d, x.passes(0, d), 1);
            due("here on " + d, x.here(0, d), 3);
            due("often from " + d, x.often(0, 0, d, 4000), 2000);
            due("next from " + d, x.next(0, 0, d), d);
            due("next behind " + d, x.next(0, 1, d), d + 1);
            due("meets from " + d, x.meets(0, 1, 1, d), d + 1);
            due("miss on " + d, x.miss(0, 0, d), 2);
            due("waits from " + d, x.waits(0, d, 200), 1);
            due("fuel on " + d, x.fuel(0, 0, 0, d, 1), 3);
            due("soon from " + d, x.soon(0, 1, d, 1), d + 1);
            due("reach from " + d, x.reach(0, d, 1, 2), 3);
            due("least from " + d, x.least(0, 1, d, 1, 2), 4);
            due("edge from " + d, x.edge(0, 1, d, 1, 0), d + 1);
            due("bears from " + d, x.bears(0, 1, d, 1), d + 1);
            due("needed from " + d, x.needed(0, 1, d, 1), 0);
            due("judge from " + d, x.judge(1, 1, d, 1, 0), -1);
            due("toldFuel from " + d, x.toldFuel(1, 1, d, 1, 0), 0);
            due("trip from " + d, x.trip(0, 1, d, 1), 0);
            due("ride from " + d, x.ride(0, 1), d);
            due("let off behind " + d, x.ride(0, 2), d + 1);
            due("aboard on " + d, x.aboard(0, d, 1), 1);
            due("together from " + d, x.together(0, 1, d, 1, 0), d);
            due("together behind " + d, x.together(1, 0, d, 1, 0), d + 1);
        }
        NeverStop far = worlds(2);
        plain(far, 60, 9, 19, 18);
        due("caught behind day 20000", far.soon(0, 1, 20000, 1), 20118);
        due("FUEL behind day 20000", far.least(0, 1, 20000, 1, 119), 4);
    }

    private static void daysThatAreNone() {
        for (int d : new int[] {-1, 20001, Integer.MIN_VALUE, Integer.MAX_VALUE}) {
            NeverStop x = toAndFro();
            due("passes on " + d, x.passes(0, d), -7);
            due("here on " + d, x.here(0, d), -7);
            due("often from " + d, x.often(0, 0, d, 0), -7);
            due("next from " + d, x.next(0, 0, d), -7);
            due("meets from " + d, x.meets(0, 1, 1, d), -7);
            due("miss on " + d, x.miss(0, 0, d), -7);
            due("waits from " + d, x.waits(0, d, 1), -7);
            due("fuel on " + d, x.fuel(0, 0, 0, d, 1), -7);
            due("soon from " + d, x.soon(0, 1, d, 1), -5);
            due("soon to itself from " + d, x.soon(0, 0, d, 1), -5);
            due("reach from " + d, x.reach(0, d, 1, 0), -5);
            due("least from " + d, x.least(0, 0, d, 1, 0), -5);
            due("edge from " + d, x.edge(0, 1, d, 1, -1), -5);
            due("bears from " + d, x.bears(0, 0, d, 1), -5);
            due("needed from " + d, x.needed(0, 0, d, 1), -5);
            due("judge from " + d, x.judge(0, 0, d, 1, 0), -5);
            due("toldFuel from " + d, x.toldFuel(0, 0, d, 1, 0), -5);
            due("trip from " + d, x.trip(0, 1, d, 1), -2);
            due("aboard on " + d, x.aboard(0, d, 0), -7);
            due("together from " + d, x.together(0, 1, d, 1, 0), -5);
        }
    }

    private static void worlds() {
        says(TERMS, "WORLDS are numbered from 0 on, 4 at most: BOATS (0 .. 9), READY (1 .. 99 days).");
        within("world's BOATS", v -> new NeverStop().world(v, 1), 0, 9, -2);
        within("world's READY", v -> new NeverStop().world(1, v), 1, 99, -2);
        within("port's BOATS", v -> worlds(1).port(0, 0, v), 0, 9, -7);
        within("port's READY", v -> worlds(1).port(0, 1, v), 1, 99, -7);
        NeverStop x = new NeverStop();
        due("the first", x.world(0, 1), 0);
        due("the second", x.world(9, 99), 1);
        due("the third", x.world(9, 1), 2);
        due("the last", x.world(0, 99), 3);
        due("a fifth", x.world(0, 1), -4);
        due("how many", x.count(0), 4);
        int[][] told = {{0, 1}, {9, 99}, {9, 1}, {0, 99}};
        for (int w = 0; w < 4; w++) {
            due("BOATS of " + w, x.port(w, 0, 5), told[w][0]);
            due("READY of " + w, x.port(w, 1, 5), told[w][1]);
        }
    }

    private static void ships() {
        says(TERMS, "SHIPS are numbered from 0 on, 9 at most: "
            + "of a KIND, a ROUND (2 .. 60 days), MORE (0 .. 29), HAS (0 .. 99),");
        within("KIND", v -> new NeverStop().ship(v, 2, 0, 0), 0, 5, -2);
        within("ROUND", v -> new NeverStop().ship(0, v, 0, 0), 2, 60, -2);
        within("MORE", v -> new NeverStop().ship(0, 2, v, 0), 0, 29, -2);
        within("HAS", v -> new NeverStop().ship(0, 2, 0, v), 0, 99, -2);
        NeverStop x = new NeverStop();
        int[][] told = {{0, 2, 0, 0}, {1, 60, 29, 99}, {2, 2, 29, 0}, {3, 60, 0, 99}, {4, 2, 0, 0},
            {5, 60, 29, 0}, {0, 60, 29, 99}, {0, 3, 1, 1}, {0, 59, 28, 98}};
        for (int s = 0; s < 9; s++) {
            due("ship " + s, x.ship(told[s][0], told[s][1], told[s][2], told[s][3]), s);
        }
        due("a tenth", x.ship(0, 2, 0, 0), -4);
        due("how many", x.count(1), 9);
        int[] rooms = {0, 99, 0, 99, 0, 0, 99, 1, 98};
        for (int s = 0; s < 9; s++) {
            due("KIND of " + s, x.shipTold(s, 0), told[s][0]);
            due("ROUND of " + s, x.shipTold(s, 1), told[s][1]);
            due("MORE of " + s, x.shipTold(s, 2), told[s][2]);
            due("ROOM of " + s, x.shipTold(s, 3), rooms[s]);
        }
    }

    private static NeverStop oneShip(int round) {
        NeverStop x = worlds(4);
        x.ship(0, round, 0, 9);
        return x;
    }

    private static void turned() {
        says(TERMS, "TURNED (0 .. ROUND less 1; 0 at first),");
        for (int round : new int[] {2, 7, 60}) {
            within("TURNED of a ROUND of " + round, v -> oneShip(round).turn(0, v), 0, round - 1, -7);
            NeverStop x = oneShip(round);
            due("TURNED at first", x.shipTold(0, 4), 0);
            due("the last", x.turn(0, round - 1), 0);
            due("the last is told", x.shipTold(0, 4), round - 1);
            due("the first again", x.turn(0, 0), round - 1);
        }
    }

    private static void phases() {
        says(TERMS, "and for each of the worlds 0 .. 3 a PHASE (0 .. ROUND less 1, or never, -1, as at first) "
            + "and a SPEED (0 .. 9; 0 at first).");
        for (int round : new int[] {2, 7, 60}) {
            within("PHASE of a ROUND of " + round, v -> oneShip(round).loop(0, 3, v, 0), -1, round - 1, -2);
        }
        within("SPEED", v -> oneShip(2).loop(0, 3, 0, v), 0, 9, -2);
        NeverStop x = new NeverStop();
        x.ship(0, 60, 0, 9);
        for (int w = 0; w < 4; w++) {
            due("PHASE at first, ahead of world " + w, x.shipTold(0, 5 + w), -1);
            due("SPEED at first, ahead of world " + w, x.shipTold(0, 9 + w), 0);
            x.world(1, 1);
            due("PHASE at first at world " + w, x.shipTold(0, 5 + w), -1);
            due("loop at world " + w, x.loop(0, w, 59 - w, 9 - w), -1);
        }
        for (int w = 0; w < 4; w++) {
            due("PHASE at world " + w, x.shipTold(0, 5 + w), 59 - w);
            due("SPEED at world " + w, x.shipTold(0, 9 + w), 9 - w);
            due("it passes world " + w, x.passes(0, 59 - w), 1 << w);
            due("never at world " + w, x.loop(0, w, -1, 0), 59 - w);
            due("it doesn't pass world " + w, x.passes(0, 59 - w), 0);
            due("the first day at world " + w, x.loop(0, w, 0, 0), -1);
            due("it passes world " + w + " on day 0", x.passes(0, 0), (2 << w) - 1);
        }
    }

    // ---- kinds

    private static void passesOn(NeverStop x, int s, int bits, int... daysOn) {
        for (int d : daysOn) {
            due("passes(" + s + ", " + d + ")", x.passes(s, d), bits);
        }
    }

    private static void plainShips() {
        says(TERMS, "KINDS: on which days it PASSES a world, how QUICK, its ROOM. 0 SHIP: if it has a PHASE there: "
            + "days d, for which d modulo ROUND is (PHASE, and TURNED, and how much LATER it is) modulo ROUND (LATER 0); "
            + "SPEED; HAS.");
        NeverStop x = worlds(4);
        ship(x, 0, 5, 29, 7, 0, 4, -1, 0);
        passesOn(x, 0, 9, 0, 5, 10, 20000);
        passesOn(x, 0, 2, 4, 9, 14, 19999);
        passesOn(x, 0, 0, 1, 2, 3, 6, 7, 8, 19996, 19997, 19998);
        x.turn(0, 1);
        passesOn(x, 0, 9, 1, 6, 19996);
        passesOn(x, 0, 2, 0, 5, 20000);
        passesOn(x, 0, 0, 2, 3, 4, 7, 8, 9);
        x.turn(0, 4);
        passesOn(x, 0, 9, 4, 9, 19999);
        passesOn(x, 0, 2, 3, 8, 19998);
        passesOn(x, 0, 0, 0, 1, 2, 5, 20000);
        plain(x, 2, 7, 0, 1);
        x.turn(1, 1);
        passesOn(x, 1, 1, 1, 3, 19999);
        passesOn(x, 1, 2, 0, 2, 20000);
        plain(x, 60, 7, 59, 20);
        passesOn(x, 2, 1, 59, 119);
        passesOn(x, 2, 2, 20, 80, 20000);
        passesOn(x, 2, 0, 0, 58, 60, 118, 19999);
        x.turn(2, 59);
        passesOn(x, 2, 1, 58, 118);
        passesOn(x, 2, 2, 19, 79, 19999);
        passesOn(x, 2, 0, 57, 59, 60, 20000);
        for (int quick = 0; quick <= 9; quick++) {
            x.loop(0, 0, 0, quick);
            due("as QUICK as SPEED", x.shipTold(0, 9), quick);
        }
        due("as much ROOM as HAS", x.shipTold(0, 3), 7);
    }

    private static void slowGreat() {
        says(TERMS, "1 SLOW (a SHIP): half (cut) as QUICK.");
        NeverStop x = worlds(1);
        ship(x, 1, 5, 29, 7, 0);
        int[] half = {0, 0, 1, 1, 2, 2, 3, 3, 4, 4};
        for (int speed = 0; speed <= 9; speed++) {
            x.loop(0, 0, 0, speed);
            due("QUICK of SPEED " + speed, x.shipTold(0, 9), half[speed]);
        }
        says(TERMS, "2 GREAT (a SHIP): twice its ROOM.");
        x = new NeverStop();
        x.ship(2, 5, 29, 0);
        x.ship(2, 5, 29, 1);
        x.ship(2, 5, 29, 99);
        due("twice 0", x.shipTold(0, 3), 0);
        due("twice 1", x.shipTold(1, 3), 2);
        due("twice 99", x.shipTold(2, 3), 198);
    }

    private static void turners() {
        says(TERMS, "3 TURNER (a SHIP): LATER is MORE, if d by ROUND (cut) is odd.");
        NeverStop x = worlds(4);
        // of the odd rounds the first day (3 and 2, modulo 5), the last (2 and 2), and past it (4 and 2)
        ship(x, 3, 5, 2, 7, 4, 3, 2);
        passesOn(x, 0, 1, 4, 6, 14, 16, 19994, 19996);
        passesOn(x, 0, 2, 3, 5, 13, 15, 19993, 19995);
        passesOn(x, 0, 4, 2, 9, 12, 19, 19999);
        passesOn(x, 0, 0, 0, 1, 7, 8, 10, 11, 17, 18, 20000);
        ship(x, 3, 2, 29, 7, 0, 1);
        passesOn(x, 1, 1, 0, 3, 4, 7, 20000);
        passesOn(x, 1, 2, 1, 2, 5, 6);
        ship(x, 3, 5, 0, 7, 4);
        passesOn(x, 2, 1, 4, 9, 14, 19);
        ship(x, 3, 5, 5, 7, 4);
        passesOn(x, 3, 1, 4, 9, 14, 19);
        // (4 and 4) modulo 5, (4 and 4 and 4) modulo 5
        ship(x, 3, 5, 4, 7, 4);
        x.turn(4, 4);
        passesOn(x, 4, 1, 3, 7, 13, 17);
        passesOn(x, 4, 0, 4, 8, 9, 12, 14);
        ship(x, 3, 60, 29, 7, 59);
        passesOn(x, 5, 1, 59, 60 + 28, 179, 180 + 28);
        passesOn(x, 5, 0, 60, 119, 120 + 28, 239);
    }

    private static void shy() {
        says(TERMS, "4 SHY (a GREAT): never PASSES the world (MORE modulo 4).");
        int[] mores = {0, 1, 2, 3, 4, 7, 26, 28, 29};
        NeverStop x = worlds(4);
        for (int s = 0; s < mores.length; s++) {
            int w = mores[s] % 4;
            ship(x, 4, 5, mores[s], 7, 0, 0, 0, 0);
            due("passes with MORE " + mores[s], x.passes(s, 0), 15 - (1 << w));
            due("often by that world", x.often(s, w, 0, 4000), 0);
            due("next by that world", x.next(s, w, 0), -1);
            due("miss by that world", x.miss(s, w, 0), -3);
            due("often by another one", x.often(s, (w + 1) % 4, 0, 5), 1);
            due("its PHASE is told all the same", x.shipTold(s, 5 + w), 0);
        }
        due("here", x.here(1, 0), 511 - 2 - 256);
        due("two that never meet", x.meets(0, 1, 0, 0), -1);
        due("two that meet", x.meets(0, 1, 2, 1), 5);
    }

    private static void breathers() {
        says(TERMS, "5 BREATHER (a TURNER): MORE modulo 10 QUICKER; 1 less ROOM (0 at least).");
        int[] mores = {0, 1, 9, 10, 19, 20, 29};
        int[] quicker = {0, 1, 9, 0, 9, 0, 9};
        NeverStop x = worlds(1);
        for (int s = 0; s < mores.length; s++) {
            ship(x, 5, 5, mores[s], 7, 0);
            due("QUICK of SPEED 0 with MORE " + mores[s], x.shipTold(s, 9), quicker[s]);
            x.loop(s, 0, 0, 9);
            due("QUICK of SPEED 9 with MORE " + mores[s], x.shipTold(s, 9), 9 + quicker[s]);
        }
        x = new NeverStop();
        int[] has = {0, 1, 2, 99};
        int[] room = {0, 0, 1, 98};
        for (int s = 0; s < has.length; s++) {
            x.ship(5, 5, 0, has[s]);
            due("ROOM with HAS " + has[s], x.shipTold(s, 3), room[s]);
        }
    }

    private static void asAbove() {
        says(TERMS, "(Whatever isn't told is as of the KIND above.)");
        NeverStop x = worlds(2);
        for (int kind = 0; kind <= 5; kind++) {
            ship(x, kind, 5, 9, 7, 3, 0);
            x.loop(kind, 0, 3, 9);
        }
        int[] quick = {9, 4, 9, 9, 9, 18};
        int[] room = {7, 7, 14, 7, 14, 6};
        // LATER by 9: 3 becomes 2, 0 becomes 4; SHY of world 1
        int[][] days = {{2, 1, 0}, {2, 1, 0}, {2, 1, 0}, {0, 0, 2}, {0, 1, 0}, {0, 0, 2}};
        for (int s = 0; s <= 5; s++) {
            due("QUICK of KIND " + s, x.shipTold(s, 9), quick[s]);
            due("ROOM of KIND " + s, x.shipTold(s, 3), room[s]);
            due("passes(" + s + ", 5)", x.passes(s, 5), days[s][0]);
            due("passes(" + s + ", 8)", x.passes(s, 8), days[s][1]);
            due("passes(" + s + ", 9)", x.passes(s, 9), days[s][2]);
            due("passes(" + s + ", 3)", x.passes(s, 3), 1);
            due("passes(" + s + ", 10)", x.passes(s, 10), s == 4 ? 0 : 2);
        }
    }

    // ---- texts

    private static void tape() {
        says(TERMS, "A TEXT is read from THE TAPE (160 bytes at most).");
        String text = "catch 1;drop 1;" + " ".repeat(160 - 15 - 8) + "change3;";
        NeverStop x = worlds(1);
        plain(x, 5, 9, 0);
        due("160 bytes", feedAll(x, text), 160);
        due("a byte more", x.feed(' ', 1), -4);
        due("160 bytes are a TEXT", x.text(), 1);
        x.force(1);
        due("its last part", x.fuel(2, 0, 0, 0, 1), 3);
        due("its first 159 bytes", textOf(x, text.substring(0, 159)), -259);
        due("its last byte is wrong", textOf(x, text.substring(0, 159) + "+"), -260);
        due("its last byte begins no TOKEN", textOf(x, text.substring(0, 159) + "?"), -259);
        due("no bytes", x.text(), -100);
    }

    /** What text() answers of "catch", these bytes, and good parts behind them. */
    private static int readOf(String bytes) {
        return textOf(new NeverStop(), "catch " + bytes + REST);
    }

    private static boolean isLetter(int c) {
        return c >= 97 && c <= 122;
    }

    private static boolean isDigit(int c) {
        return c >= 48 && c <= 57;
    }

    private static boolean isBlank(int c) {
        return c == 32 || c == 10;
    }

    private static void words() {
        says(TERMS, "TOKENS, each as long as can be: WORDS (as many letters a .. z as stand there),");
        for (int c = 0; c < 256; c++) {
            // a letter makes another WORD of it; an operator, a ; leave the next ; without what must stand there
            boolean next = "+-*<=;".indexOf(c) >= 0;
            int want = isLetter(c) ? -106 : isBlank(c) ? 1 : next ? -110 : -109;
            due("'day' and byte " + c, readOf("day" + (char) c), want);
        }
        due("two NAMES in one", readOf("daydate"), -106);
        due("KEY and NAME in one", textOf(new NeverStop(), "catchday" + REST), -100);
        due("not and NAME in one", readOf("notday"), -106);
        due("a WORD up to a digit", readOf("day1"), -109);
        due("a WORD of one letter", readOf("a"), -106);
        due("a WORD of 100 letters", readOf("z".repeat(100)), -106);
        due("WORDS next to SIGNS", readOf("(day)or(not(day))and day"), 1);
    }

    private static void numbers() {
        says(TERMS, "NUMBERS (as many digits as stand there; more than 4 are too long),");
        for (int c = 0; c < 256; c++) {
            boolean next = "+-*<=;".indexOf(c) >= 0;
            int want = isDigit(c) || isBlank(c) ? 1 : next ? -109 : -108;
            due("'12' and byte " + c, readOf("12" + (char) c), want);
        }
        due("one digit", readOf("0"), 1);
        due("four digits", readOf("9999"), 1);
        due("four of them 0", readOf("0000"), 1);
        due("five digits", readOf("10000"), -106);
        due("five of them 0", readOf("00000"), -106);
        due("a hundred digits", readOf("1".repeat(100)), -106);
        due("five by a blank", readOf("1234 5"), -111);
        due("as much as it says", fuelOf("0099-0001"), 98);
    }

    private static void signs() {
        says(TERMS, "SIGNS ( ) ; + - * < = ;");
        for (int c = 0; c < 256; c++) {
            int want = "+-*<=".indexOf(c) >= 0 ? 1 : isBlank(c) || c == ';' ? -110 : -108;
            due("byte " + c + " between two NUMBERS", readOf("1 " + (char) c + " 1"), want);
        }
        for (int c = 0; c < 256; c++) {
            int want = c == '-' || isBlank(c) ? 1 : isDigit(c) ? -108 : c == '(' ? -109 : -106;
            due("byte " + c + " ahead of a NUMBER", readOf((char) c + " 1"), want);
        }
        due("( and )", readOf("(1)"), 1);
        due("two SIGNS are two TOKENS", readOf("1<=1"), -108);
    }

    private static void blanks() {
        says(TERMS, "blanks (32, 10) may stand between.");
        String[] tokens = {"catch", "(", "not", "quick", "<", "3", ")", "or", "-", "7", "+", "8", "*", "day", "=", "load",
            "and", "room", ";", "drop", "ship", ";", "change", "world", ";"};
        for (String blank : new String[] {" ", "\n", "  ", " \n", "\n\n "}) {
            NeverStop x = new NeverStop();
            due("between all", textOf(x, String.join(blank, tokens)), 1);
        }
        due("nowhere but between WORDS",
            textOf(new NeverStop(), "catch(not quick<3)or-7+8*day=load and room;drop ship;change world;"), 1);
        due("not in a WORD", readOf("da y"), -106);
        due("not in a NUMBER", readOf("1 2"), -108);
        for (int c : new int[] {0, 9, 11, 12, 13, 31, 33, 127, 133, 160, 255}) {
            due("byte " + c + " is no blank", readOf("1" + (char) c), -107);
        }
    }

    private static void faultAt(int place, String text) {
        NeverStop x = new NeverStop();
        due("text() of '" + text + "'", textOf(x, text), -100 - place);
        due("TEXTS behind '" + text + "'", x.count(3), 1);
        due("THE TAPE behind '" + text + "'", x.count(5), 0);
    }

    private static void wholeTexts() {
        says(TERMS, "TEXT: catch E ; drop E ; change E ';'");
        due("all parts", textOf(new NeverStop(), "catch 1;drop 1;change 1;"), 1);
        faultAt(0, "");
        faultAt(0, "1;drop 1;change 1;");
        faultAt(0, "drop 1;catch 1;change 1;");
        faultAt(0, ";");
        faultAt(5, "catch;drop 1;change 1;");
        faultAt(8, "catch 1 drop 1;change 1;");
        faultAt(8, "catch 1;change 1;drop 1;");
        faultAt(8, "catch 1;catch 1;drop 1;change 1;");
        faultAt(12, "catch 1;drop;change 1;");
        faultAt(15, "catch 1;drop 1;drop 1;change 1;");
        faultAt(15, "catch 1;drop 1;");
        faultAt(15, "catch 1;drop 1;;");
        faultAt(21, "catch 1;drop 1;change;");
        faultAt(23, "catch 1;drop 1;change 1");
        faultAt(23, "catch 1;drop 1;change 1)");
        faultAt(24, "catch 1;drop 1;change 1;;");
        faultAt(24, "catch 1;drop 1;change 1;catch 1;drop 1;change 1;");
        faultAt(25, "catch 1;drop 1;change 1; 1");
    }

    /** FUEL of a CATCH of ship 0 at world 0 on day 0 with one, by an E. */
    private static long fuelOf(String e) {
        NeverStop x = worlds(1);
        plain(x, 5, 9, 0);
        lawOf(x, "catch " + e + REST);
        return x.count(4) == 1 ? x.fuel(0, 0, 0, 0, 1) : -100;
    }

    private static void worth(int want, String e) {
        due("FUEL by '" + e + "'", fuelOf(e), want);
    }

    private static void grammar() {
        says(TERMS, "E: AND { or AND }.");
        worth(5, "5");
        worth(1, "5 or 7");
        worth(0, "0 or 0");
        worth(1, "0 or 0 or 0 or 3");
        worth(1, "1 or 0 and 0");
        due("nothing behind or", readOf("1 or"), -110);
        due("nothing ahead of or", readOf("or 1"), -106);
        says(TERMS, "AND: NOT { and NOT }.");
        worth(1, "5 and 7");
        worth(0, "5 and 0");
        worth(0, "5 and 7 and 0 and 3");
        worth(1, "0 and 0 or 1");
        due("nothing behind and", readOf("1 and"), -111);
        due("nothing ahead of and", readOf("and 1"), -106);
        says(TERMS, "NOT: not NOT, or SUM, perhaps < or = and a SUM.");
        worth(0, "not 5");
        worth(1, "not 0");
        worth(1, "not not 5");
        worth(0, "not 1<2");
        worth(1, "1+1<3");
        worth(0, "3<1+2");
        worth(1, "3=1+2");
        worth(0, "not 0 and 0");
        due("a second <", readOf("1<2<3"), -109);
        due("a = behind <", readOf("1<2=1"), -109);
        due("a not behind <", readOf("1<not 0"), -108);
        due("nothing behind not", readOf("not"), -109);
        says(TERMS, "SUM: TERM { + or - TERM }.");
        worth(5, "10-3-2");
        worth(9, "10-3+2");
        worth(14, "2+3*4");
        due("nothing behind +", readOf("1+"), -108);
        due("nothing ahead of +", readOf("+1"), -106);
        due("a not behind +", readOf("1+not 0"), -108);
        says(TERMS, "TERM: ONE { * ONE }.");
        worth(24, "2*3*4");
        worth(10, "2*3+4");
        due("nothing behind *", readOf("1*"), -108);
        due("a not behind *", readOf("1*not 0"), -108);
        says(TERMS, "ONE: a NUMBER, a NAME, - ONE, ( E ).");
        worth(9, "room");
        worth(3, "-5+8");
        worth(5, "--5");
        worth(6, "-2*-3");
        worth(20, "(2+3)*4");
        worth(3, "-(2-5)");
        worth(40, "(0 or not 0)*40");
        due("nothing in ( )", readOf("()"), -107);
        due("( without )", readOf("(1"), -108);
        due(") without (", readOf("1)"), -107);
        due("a NAME behind a NUMBER", readOf("1 room"), -108);
    }

    private static void names() {
        says(TERMS, "NAMES: quick room day load ship world.");
        for (String name : new String[] {"quick", "room", "day", "load", "ship", "world"}) {
            due(name, readOf(name), 1);
            due(name + " less its last letter", readOf(name.substring(0, name.length() - 1)), -106);
            due(name + " with a letter more", readOf(name + "s"), -106);
            due(name + " with another first letter", readOf("x" + name.substring(1)), -106);
        }
        for (String key : new String[] {"catch", "drop", "change", "or", "and"}) {
            due(key + " is none", readOf(key), -106);
        }
    }

    private static void ints() {
        says(TERMS, "An E is an int (32 bits, wrapping): of or, and, not, <, = 1 or 0 (what is not 0 is true).");
        worth(0, LAST_INT + "<0");
        worth(1, LAST_INT + "+1<0");
        worth(1, "-(" + LAST_INT + ")<0");
        worth(1, "-(" + LAST_INT + ")-1<0");
        worth(0, "-(" + LAST_INT + ")-2<0");
        worth(1, "-(" + LAST_INT + "+1)<0");
        worth(1, "(" + LAST_INT + ")*2=-2");
        worth(1, "(" + LAST_INT + "+1)*2=0");
        // 9999 * 9999 * 43 is 4299140043, 2^32 and 4172747
        worth(1, "9999*9999*43=417*9999+3164");
        worth(1, "-1 or 0");
        worth(1, "-1 and 9999");
        worth(0, "not -1");
        worth(1, "(" + LAST_INT + "+1)and 1");
        worth(0, "(" + LAST_INT + "+1)*2 or 0");
        worth(1, "-1<0");
        worth(0, "0<-1");
        worth(0, "0<0");
        worth(1, "0=-0");
        worth(3, "(5 or 5)+(5 and 5)+(not 0)");
        worth(2, "(3<5)+(5=5)");
    }

    private static void faultsOfTokens() {
        says(TERMS, "FAULT: the place of the first byte of the first TOKEN that can't stand there "
            + "(the text's size, if it ends too early),");
        faultAt(0, "quick");
        faultAt(3, "   drop 1");
        faultAt(12, "catch quick room;drop 1;change 1;");
        faultAt(12, "catch quick change;drop ?;");
        faultAt(8, "catch 1 9999;drop 12345;");
        faultAt(12, "catch (1+2)*)3;");
        int whole = "catch (1+2)*3 ;drop not 1;change 1;".length();
        for (int size = 0; size < whole; size++) {
            String cut = "catch (1+2)*3 ;drop not 1;change 1;".substring(0, size);
            String last = cut.replaceAll(".*[^a-z]", "");
            boolean begun = !last.isEmpty() && !last.matches("catch|drop|not|change");
            // a WORD that is cut off is none that may stand there; all else ends too early
            faultAt(begun ? size - last.length() : size, cut);
        }
        faultAt(160, "catch 1;" + " ".repeat(152));
        faultAt(8, "catch 1 ");
    }

    private static void faultsOfBytes() {
        says(TERMS, "also of a byte that begins none,");
        faultAt(0, "?");
        faultAt(6, "catch " + (char) 0 + "1;");
        faultAt(6, "catch " + (char) 255 + "1;");
        faultAt(6, "catch A;");
        faultAt(24, "catch 1;drop 1;change 1;.");
        says(TERMS, "of a WORD that is neither KEY nor NAME,");
        faultAt(0, "cat 1;");
        faultAt(0, "catches 1;");
        faultAt(6, "catch quicker;");
        faultAt(8, "catch 1 xor 1;");
        faultAt(15, "catch 1;drop 1;changes 1;");
        faultAt(24, "catch 1;drop 1;change 1;z");
        says(TERMS, "a NUMBER that is too long,");
        faultAt(6, "catch 12345;");
        faultAt(0, "12345");
        faultAt(8, "catch 1+00001;");
        faultAt(24, "catch 1;drop 1;change 1;99999");
        due("one that is not", readOf("1+0001"), 1);
    }

    private static void opens() {
        says(TERMS, "a ( , a not, a - ahead of a ONE while 5 of these are open "
            + "(a ( till its ) , not and - till what they belong to ends).");
        due("five (", readOf("(((((1)))))"), 1);
        due("five not", readOf("not not not not not 1"), 1);
        due("five -", readOf("-----1"), 1);
        due("five of all", readOf("(not(-(1)))"), 1);
        due("six (", readOf("((((((1))))))"), -111);
        due("six not", readOf("not not not not not not 1"), -126);
        due("six -", readOf("------1"), -111);
        due("( behind five not", readOf("not not not not not(1)"), -125);
        due("- behind five not", readOf("not not not not not -1"), -126);
        due("( behind five -", readOf("-----(1)"), -111);
        due("not behind five (", readOf("(((((not 1)))))"), -111);
        due("- behind five (", readOf("(((((-1)))))"), -111);
        due("not behind four ( and a not", readOf("((((not not 1))))"), -114);
        due("- behind four ( and a -", readOf("((((--1))))"), -111);
        due("not behind four ( and a -, which can't stand there", readOf("((((-not 1))))"), -111);
        due("in the second part", textOf(new NeverStop(), "catch 1;drop ((((((1))))));change 1;"), -118);
        due("in the third part", textOf(new NeverStop(), "catch 1;drop 1;change ------1;"), -127);
    }

    private static void opensEnd() {
        due("a - between two TERMS is none", readOf("(((((1-1)))))"), 1);
        due("a - ahead of a ONE behind it is one", readOf("(((((1--1)))))"), -113);
        due("( till its )", readOf("(((((1)))))*(((((1)))))"), 1);
        due("a ( more where one is closed", readOf("(((((1))*((1)))))"), 1);
        due("two ( more where one is closed", readOf("(((((1)*((1))))))"), -115);
        due("- till its ONE ends", readOf("-----1*-----1+-----1<-----1"), 1);
        due("- till its ( ) ends", readOf("-(-(1))*(((((1)))))"), 1);
        due("- is open in its ( )", readOf("-(-(-(1)))"), -111);
        due("not till its NOT ends by and", readOf("not not not not not 1 and not not not not not 1"), 1);
        due("not till its NOT ends by or", readOf("not not not not not 1 or(((((1)))))"), 1);
        due("not till its NOT ends by )", readOf("(not not not not 1)and(((((1)))))"), 1);
        due("not is open behind its <", readOf("not not not not not 1<(1)"), -128);
        due("not is open behind its =", readOf("not not not not not 1=-1"), -128);
        due("not is open behind its +", readOf("not not not not not 1+(1)"), -128);
        due("not is open behind its *", readOf("not not not not not 1*-1"), -128);
        NeverStop x = new NeverStop();
        due("parts are on their own", textOf(x, "catch (((((1)))));drop -----1;change (((((1)))));"), 1);
        // each of five ( with five numbers that wait for what is in it
        String deep = "0 or 1 and 1<1+1*(".repeat(5) + "0 or 1 and 1<1+1*7" + ")))))";
        due("as deep as can be", fuelOf(deep), 1);
        due("as deep as can be, to its last number", fuelOf("(1+(1+(1+(1+(1+2*3)))))"), 11);
        due("nothing stays open from a fault", textOf(x, "catch (((((("), -111);
        due("the next TEXT", textOf(x, "catch (((((1)))))" + REST), 2);
    }

    private static void sixTexts() {
        says(TERMS, "TEXTS are numbered from 0 on, 6 at most;");
        NeverStop x = new NeverStop();
        for (int t = 1; t <= 5; t++) {
            due("how many", x.count(3), t);
            due("a FAULT is no TEXT", textOf(x, "catch"), -105);
            due("the next TEXT", textOf(x, "catch 1" + REST), t);
        }
        due("one more", textOf(x, "catch 1" + REST), -4);
        due("how many", x.count(3), 6);
        due("the last is THE LAW", x.force(5), 0);
        due("no other one", x.force(6), -2);
    }

    private static void firstText() {
        says(TERMS, "TEXT 0, at first, and THE LAW: catch 3 + quick * 2 ; drop 1 + quick ; change 2 ;");
        NeverStop x = worlds(1);
        due("how many", x.count(3), 1);
        due("THE LAW", x.count(4), 0);
        ship(x, 5, 5, 9, 9, 0);
        int[] speeds = {0, 1, 9};
        for (int speed : speeds) {
            x.loop(0, 0, 0, speed);
            due("catch", x.fuel(0, 0, 0, 7, 3), 3 + 2 * (9 + speed));
            due("drop", x.fuel(1, 0, 0, 7, 3), 1 + 9 + speed);
            due("change", x.fuel(2, 0, 0, 7, 3), 2);
        }
        plain(x, 5, 9, 0);
        due("catch of QUICK 0", x.fuel(0, 1, 0, 7, 3), 3);
        due("drop of QUICK 0", x.fuel(1, 1, 0, 7, 3), 1);
    }

    // ---- FUEL

    private static void fuelBounds() {
        says(TERMS, "FUEL (0 .. 99, else the bound) of a ship at a world on a day:");
        worth(0, "0");
        worth(0, "-1");
        worth(0, "-9999");
        worth(1, "1");
        worth(98, "98");
        worth(99, "99");
        worth(99, "100");
        worth(99, "9999");
        worth(99, LAST_INT);
        worth(0, LAST_INT + "+1");
        // each act's FUEL has its bounds, not their sum
        NeverStop x = worlds(2);
        plain(x, 5, 9, 0, 2);
        lawOf(x, "catch 100;drop 9999;change 0;");
        due("two dear acts", x.least(0, 1, 0, 1, 3), 198);
        lawOf(x, "catch 99;drop -99;change 0;");
        due("a dear one and a free one", x.least(0, 1, 0, 1, 3), 99);
        row(x, 0, 2, 0, 0, 0, 2, 1, 1);
        due("as a TOLD WAY", x.toldFuel(0, 1, 0, 1, 0), 99);
    }

    private static void fuelNames() {
        says(TERMS, "quick: how QUICK it is there; room: its ROOM; day; load: how many go; ship, world: their numbers.");
        NeverStop x = worlds(4);
        for (int s = 0; s < 8; s++) {
            x.ship(0, 5, 0, 1);
        }
        ship(x, 5, 60, 9, 50, 1, 2, 3, 4);
        x.loop(8, 2, 3, 4);
        x.loop(8, 3, -1, 5);
        String[] names = {"quick", "room", "day", "load", "ship"};
        int[] want = {13, 49, 30, 98, 8};
        for (int i = 0; i < names.length; i++) {
            lawOf(x, "catch " + names[i] + ";drop " + names[i] + "-1;change " + names[i] + "-2;");
            due("catch by " + names[i], x.fuel(0, 8, 2, 30, 98), want[i]);
            due("drop by " + names[i], x.fuel(1, 8, 2, 30, 98), want[i] - 1);
            due("change by " + names[i], x.fuel(2, 8, 2, 30, 98), want[i] - 2);
        }
        NeverStop y = worlds(4);
        plain(y, 5, 0, 0);
        lawOf(y, "catch world*10+ship;drop load;change day-2*9975;");
        for (int w = 0; w < 4; w++) {
            due("world " + w, y.fuel(0, 0, w, 0, 1), 10 * w);
        }
        due("load 1", y.fuel(1, 0, 0, 0, 1), 1);
        due("load 99", y.fuel(1, 0, 0, 0, 99), 99);
        due("day 20000", y.fuel(2, 0, 0, 20000, 1), 50);
        lawOf(y, "catch day-2*5000*2;drop 50;change 0;");
        y.loop(0, 0, 4, 0);
        y.ship(0, 5, 0, 1);
        y.loop(1, 0, 4, 0);
        y.loop(1, 1, 1, 0);
        due("day 20004", y.least(0, 1, 20000, 1, 9), 54);
    }

    /** Ship 0: world 0 on day 0, worlds 1 and 2 on day 5; ship 1: worlds 1 and 2 on day 5, world 3 on day 7. */
    private static NeverStop changing(int roomOfFirst, int roomOfSecond) {
        NeverStop x = worlds(4);
        plain(x, 10, roomOfFirst, 0, 5, 5);
        plain(x, 10, roomOfSecond, -1, 5, 5, 7);
        row(x, 0, 2, 0, 0, 0, 5, 2, 1, 7, 1, 3);
        return x;
    }

    private static void fuelOfChanges() {
        says(TERMS, "Of a change: of the ship that is changed to.");
        NeverStop x = changing(20, 30);
        x.loop(0, 1, 5, 1);
        x.loop(1, 1, 5, 2);
        x.loop(1, 2, -1, 0);
        lawOf(x, "catch 0;drop 0;change room+ship*3+quick*10;");
        due("toldFuel", x.toldFuel(0, 3, 0, 1, 0), 53);
        due("least", x.least(0, 3, 0, 1, 8), 53);
        due("edge", x.edge(0, 3, 0, 1, 1), 53);
    }

    // ---- acts

    private static void soMany() {
        says(TERMS, "SO MANY (1 .. 99) go together, from a world on a day.");
        NeverStop z = toAndFro();
        within("fuel", v -> z.fuel(0, 0, 0, 0, v), 1, 99, -7);
        within("soon", v -> z.soon(0, 0, 0, v), 1, 99, -5);
        within("reach", v -> z.reach(0, 0, v, 0), 1, 99, -5);
        within("least", v -> z.least(0, 0, 0, v, 0), 1, 99, -5);
        within("edge", v -> z.edge(0, 1, 0, v, -1), 1, 99, -5);
        within("bears", v -> z.bears(0, 0, 0, v), 1, 99, -5);
        within("needed", v -> z.needed(0, 0, 0, v), 1, 99, -5);
        within("judge", v -> z.judge(0, 0, 0, v, 0), 1, 99, -5);
        within("toldFuel", v -> z.toldFuel(0, 0, 0, v, 0), 1, 99, -5);
        within("trip", v -> toAndFro().trip(0, 1, 0, v), 1, 99, -2);
        within("together", v -> z.together(0, 1, 0, v, 0), 1, 99, -5);
        NeverStop x = worlds(2);
        ship(x, 2, 2, 0, 49, 0, 1);
        due("98 of ROOM for 98", x.soon(0, 1, 0, 98), 1);
        due("99 of ROOM for 98", x.soon(0, 1, 0, 99), -1);
        ship(x, 2, 2, 0, 50, 0, 1);
        due("99 of ROOM for 100", x.soon(0, 1, 0, 99), 1);
    }

    private static void notStarts() {
        says(TERMS, "from world to world (a, b worlds, from day d on, n SO MANY: -5, if any of these is not as told).");
        NeverStop x = toAndFro();
        within("a of soon", v -> x.soon(v, 0, 0, 1), 0, 1, -5);
        within("b of soon", v -> x.soon(0, v, 0, 1), 0, 1, -5);
        within("a of reach", v -> x.reach(v, 0, 1, 0), 0, 1, -5);
        within("a of least", v -> x.least(v, 0, 0, 1, 0), 0, 1, -5);
        within("b of least", v -> x.least(0, v, 0, 1, 0), 0, 1, -5);
        within("a of edge", v -> v == 1 ? x.edge(1, 0, 0, 1, -1) : x.edge(v, 1, 0, 1, -1), 0, 1, -5);
        within("b of edge", v -> v == 1 ? x.edge(0, 1, 0, 1, -1) : x.edge(1, v, 0, 1, -1), 0, 1, -5);
        within("a of bears", v -> x.bears(v, 0, 0, 1), 0, 1, -5);
        within("b of bears", v -> x.bears(0, v, 0, 1), 0, 1, -5);
        within("a of needed", v -> x.needed(v, 0, 0, 1), 0, 1, -5);
        within("b of needed", v -> x.needed(0, v, 0, 1), 0, 1, -5);
        within("a of judge", v -> x.judge(v, 0, 0, 1, 0), 0, 1, -5);
        within("b of judge", v -> x.judge(0, v, 0, 1, 0), 0, 1, -5);
        within("a of toldFuel", v -> v == 1 ? x.toldFuel(1, 1, 0, 1, 0) : x.toldFuel(v, 0, 0, 1, 0), 0, 1, -5);
        within("b of toldFuel", v -> v == 1 ? x.toldFuel(1, 1, 0, 1, 0) : x.toldFuel(0, v, 0, 1, 0), 0, 1, -5);
        NeverStop none = new NeverStop();
        due("no worlds: soon", none.soon(0, 0, 0, 1), -5);
        due("no worlds: reach", none.reach(0, 0, 1, 0), -5);
        due("no worlds: least", none.least(0, 0, 0, 1, 0), -5);
    }

    private static void onceADay() {
        says(TERMS, "On each day from that one on one may act once:");
        NeverStop x = worlds(4);
        plain(x, 10, 9, 0, 0);
        due("caught on the day itself, let off on another one", x.soon(0, 1, 0, 1), 10);
        due("from the next day on", x.soon(0, 1, 1, 1), 20);
        row(x, 0, 2, 0, 0, 0, 0, 1, 1);
        due("two acts on a day", x.judge(0, 1, 0, 1, 0), 1);
        // on day 5 from ship 0 to ship 1 at world 1, and from ship 1 to ship 2 at world 2: not both
        NeverStop y = worlds(4);
        plain(y, 10, 9, 0, 5);
        plain(y, 10, 9, -1, 5, 5);
        plain(y, 10, 9, -1, -1, 5, 6);
        due("two changes", y.soon(0, 3, 0, 1), 16);
        due("two changes, by FUEL", y.edge(0, 3, 0, 1, 0), 16);
        due("a change, and let off", y.soon(0, 2, 0, 1), 15);
        due("days without acts are free", y.least(0, 3, 1, 1, 200), 3 + 2 + 2 + 1);
    }

    private static void catches() {
        says(TERMS, "at a world: CATCH a ship that PASSES it that day;");
        NeverStop x = worlds(2);
        plain(x, 10, 9, 3, 5);
        due("on that day", x.soon(0, 1, 3, 1), 5);
        due("from the day behind it on", x.soon(0, 1, 4, 1), 15);
        row(x, 0, 2, 3, 0, 0, 5, 1, 1);
        due("on that day, told", x.judge(0, 1, 3, 1, 0), -1);
        for (int day : new int[] {0, 2, 4, 12, 14}) {
            x.cell(0, 0, day);
            due("on day " + day, x.judge(0, 1, 0, 1, 0), 0);
        }
        row(x, 0, 2, 5, 0, 0, 13, 1, 0);
        due("from the other world", x.judge(1, 0, 5, 1, 0), -1);
        due("at another world", x.judge(0, 0, 5, 1, 0), 0);
        row(x, 0, 2, 3, 0, 0, 13, 0, 0);
        due("aboard", x.judge(0, 1, 3, 1, 0), 1);
    }

    private static void drops() {
        says(TERMS, "aboard a ship: DROP at a world that it PASSES;");
        NeverStop x = worlds(3);
        plain(x, 10, 9, 3, 5, 5);
        row(x, 0, 2, 3, 0, 0, 5, 1, 1);
        due("at world 1", x.judge(0, 1, 3, 1, 0), -1);
        x.cell(0, 5, 2);
        due("at world 2", x.judge(0, 2, 3, 1, 0), -1);
        x.cell(0, 5, 0);
        due("at world 0", x.judge(0, 0, 3, 1, 0), 1);
        x.cell(0, 3, 13);
        due("at world 0, back again", x.judge(0, 0, 3, 1, 0), -1);
        for (int day : new int[] {4, 6, 14, 16}) {
            row(x, 0, 2, 3, 0, 0, day, 1, 1);
            due("on day " + day, x.judge(0, 1, 3, 1, 0), 1);
        }
        row(x, 0, 2, 5, 1, 1);
        due("at a world", x.judge(1, 1, 0, 1, 0), 0);
        due("reach", x.reach(0, 3, 1, 3), 7);
    }

    private static void changes() {
        says(TERMS, "CHANGE to another one that PASSES a world which it PASSES that day, too");
        due("at a world that both pass", changing(9, 9).soon(0, 3, 0, 1), 7);
        due("told", changing(9, 9).judge(0, 3, 0, 1, 0), -1);
        NeverStop x = worlds(4);
        plain(x, 10, 9, 0, 5);
        plain(x, 10, 9, -1, -1, 5, 7);
        row(x, 0, 2, 0, 0, 0, 5, 2, 1, 7, 1, 3);
        due("at unlike worlds on a day", x.soon(0, 3, 0, 1), -1);
        due("at unlike worlds on a day, by FUEL", x.least(0, 3, 0, 1, 200), -1);
        due("at unlike worlds on a day, told", x.judge(0, 3, 0, 1, 0), 1);
        x.loop(1, 1, 4, 0);
        due("at a world on unlike days", x.judge(0, 3, 0, 1, 0), 1);
        due("but put down there for ten days", x.soon(0, 3, 0, 1), 17);
        x.loop(1, 1, 5, 0);
        due("at a world on a day", x.judge(0, 3, 0, 1, 0), -1);
        row(x, 0, 2, 0, 0, 0, 5, 2, 0, 5, 1, 1);
        due("to itself", x.judge(0, 1, 0, 1, 0), 1);
        row(x, 0, 2, 5, 0, 1, 15, 2, 1, 17, 1, 3);
        due("another one to itself", x.judge(1, 3, 0, 1, 0), 1);
        row(x, 0, 2, 5, 2, 1, 7, 1, 3);
        due("at a world", x.judge(1, 3, 5, 1, 0), 0);
        // at the world where one was caught, on the next round
        NeverStop y = worlds(2);
        plain(y, 10, 9, 0);
        plain(y, 10, 9, 0, 1);
        row(y, 0, 2, 0, 0, 0, 10, 2, 1, 11, 1, 1);
        due("at the first world", y.judge(0, 1, 0, 1, 0), -1);
    }

    private static void anyWorld() {
        says(TERMS, "(LEAST FUEL: at any world that both PASS).");
        NeverStop x = changing(9, 9);
        lawOf(x, "catch 0;drop 0;change 30-world*10;");
        due("at world 2", x.least(0, 3, 0, 1, 8), 10);
        due("at world 2, of the EDGE", x.edge(0, 3, 0, 1, 1), 10);
        due("at world 1, told", x.toldFuel(0, 3, 0, 1, 0), 20);
        lawOf(x, "catch 0;drop 0;change world*10;");
        due("at world 1", x.least(0, 3, 0, 1, 8), 10);
        due("at world 1, told", x.toldFuel(0, 3, 0, 1, 0), 10);
        x.loop(1, 1, -1, 0);
        due("at world 2 alone", x.least(0, 3, 0, 1, 8), 20);
        due("at world 2 alone, told", x.toldFuel(0, 3, 0, 1, 0), 20);
    }

    private static void rooms() {
        says(TERMS, "Ships whose ROOM is less than SO MANY can't be caught, nor changed to.");
        NeverStop x = changing(3, 2);
        due("two change to ROOM for two", x.soon(0, 3, 0, 2), 7);
        due("three don't", x.soon(0, 3, 0, 3), -1);
        due("three are caught with ROOM for three", x.soon(0, 1, 0, 3), 5);
        due("four aren't", x.soon(0, 1, 0, 4), -1);
        due("reach of two", x.reach(0, 0, 2, 8), 15);
        due("reach of three", x.reach(0, 0, 3, 8), 7);
        due("reach of four", x.reach(0, 0, 4, 200), 1);
        due("least of two", x.least(0, 3, 0, 2, 8), 6);
        due("least of three", x.least(0, 3, 0, 3, 200), -1);
        due("least of three to world 1", x.least(0, 1, 0, 3, 6), 4);
        due("least of four", x.least(0, 1, 0, 4, 200), -1);
        due("judge of two", x.judge(0, 3, 0, 2, 0), -1);
        due("judge of three", x.judge(0, 3, 0, 3, 0), 1);
        due("judge of four", x.judge(0, 3, 0, 4, 0), 0);
        NeverStop none = changing(0, 9);
        due("no ROOM at all", none.soon(0, 1, 0, 1), -1);
        due("ROOM for one", changing(1, 1).soon(0, 3, 0, 1), 7);
        due("no ROOM for two", changing(1, 1).soon(0, 1, 0, 2), -1);
    }

    private static void behindTheAct() {
        says(TERMS, "One who is at a world on a day is so behind that day's act;");
        NeverStop x = worlds(2);
        plain(x, 10, 9, 0, 5);
        due("on the day of the act", x.soon(0, 1, 0, 1), 5);
        due("ahead of it", x.reach(0, 0, 1, 5), 1);
        due("with it", x.reach(0, 0, 1, 6), 3);
        due("from the day itself", x.soon(0, 1, 5, 1), 15);
        due("of the EDGE", x.edge(0, 1, 0, 1, 0), 5);
        says(TERMS, "who is there at first is there on the day itself, without any.");
    }

    private static void atFirst() {
        NeverStop x = worlds(1);
        due("soon", x.soon(0, 0, 0, 1), 0);
        due("soon on the last day", x.soon(0, 0, 20000, 99), 20000);
        due("reach", x.reach(0, 7, 1, 0), 1);
        due("least", x.least(0, 0, 7, 1, 0), 0);
        due("bears", x.bears(0, 0, 7, 1), 7);
        due("needed", x.needed(0, 0, 7, 1), 0);
        row(x, 0, 2);
        due("judge", x.judge(0, 0, 7, 1, 0), -1);
        due("toldFuel", x.toldFuel(0, 0, 7, 1, 0), 0);
    }

    private static void withinDays() {
        says(TERMS, "======== 2 LEAST FUEL within so many days: of that first day and those behind it, an act each at most.");
        NeverStop x = worlds(2);
        plain(x, 10, 9, 0, 5);
        due("no day", x.least(0, 1, 0, 1, 0), -1);
        due("the first day alone", x.least(0, 1, 0, 1, 1), -1);
        due("a day too few", x.least(0, 1, 0, 1, 5), -1);
        due("just enough", x.least(0, 1, 0, 1, 6), 4);
        due("more", x.least(0, 1, 0, 1, 200), 4);
        due("from day 5 on, too few", x.least(0, 1, 5, 1, 10), -1);
        due("from day 5 on, enough", x.least(0, 1, 5, 1, 11), 4);
        x.loop(0, 1, 0, 0);
        due("both worlds on the first day", x.least(0, 1, 0, 1, 10), -1);
        due("and on the tenth behind it", x.least(0, 1, 0, 1, 11), 4);
        NeverStop y = worlds(2);
        plain(y, 60, 9, 19, 19);
        due("behind 199 days", y.least(0, 1, 80, 1, 200), 4);
        y.loop(0, 0, 20, 0);
        lawOf(y, "catch(day<140)*90;drop 0;change 0;");
        due("caught on 140, let off on 199", y.least(0, 1, 0, 1, 200), 0);
        due("a day less", y.least(0, 1, 0, 1, 199), 90);
    }

    private static void edgeDays() {
        says(TERMS, "EDGE: of days 0 .. 199 from the first one on:");
        NeverStop x = worlds(2);
        plain(x, 60, 9, 20, 19);
        lawOf(x, "catch 99-day;drop 0;change 0;");
        due("by day 199", x.edge(0, 1, 0, 1, -1), 3);
        due("the last day", x.edge(0, 1, 0, 1, 4), 199);
        due("its FUEL", x.edge(0, 1, 0, 1, 5), 0);
        x.loop(0, 0, 21, 0);
        x.loop(0, 1, 20, 0);
        due("day 200 is outside", x.edge(0, 1, 0, 1, -1), 2);
        due("but not from day 1 on", x.edge(0, 1, 1, 1, -1), 3);
        due("day 200", x.edge(0, 1, 1, 1, 4), 200);
        NeverStop never = worlds(2);
        due("none", never.edge(0, 1, 0, 1, -1), 0);
        due("the day of none", never.edge(0, 1, 0, 1, 0), -7);
    }

    private static void edgeFuel() {
        says(TERMS, "each of those by whose act one may have come there with less FUEL than by any ahead of it:");
        NeverStop x = worlds(2);
        plain(x, 10, 9, 0, 5);
        due("like FUEL is not less", x.edge(0, 1, 0, 1, -1), 1);
        lawOf(x, "catch 50-(day<20)+(day=0);drop 0;change 0;");
        due("50, 49 and 50 again", x.edge(0, 1, 0, 1, -1), 2);
        due("the second", x.edge(0, 1, 0, 1, 3), 49);
        lawOf(x, "catch 50;drop day=15;change 0;");
        due("50, 51 and 50", x.edge(0, 1, 0, 1, -1), 1);
        lawOf(x, "catch 50;drop(day<16)*9;change 0;");
        due("59, 59 and 50", x.edge(0, 1, 0, 1, -1), 2);
        due("the day of 50", x.edge(0, 1, 0, 1, 2), 25);
        says(TERMS, "that day (as it is told), and that FUEL.");
        due("the first day", x.edge(0, 1, 0, 1, 0), 5);
        due("its FUEL", x.edge(0, 1, 0, 1, 1), 59);
        due("the second FUEL", x.edge(0, 1, 0, 1, 3), 50);
        due("the first day from 1000 on", x.edge(0, 1, 1000, 1, 0), 1005);
        due("its FUEL", x.edge(0, 1, 1000, 1, 1), 50);
        due("the first day from 20000 on", x.edge(0, 1, 20000, 1, 0), 20005);
    }

    // ---- told ways

    private static void toldWays() {
        says(TERMS, "A TOLD WAY is a SHEET of acts by threes: a day, what (0 CATCH, 1 DROP, 2 CHANGE), "
            + "the ship or (of 1) the world.");
        NeverStop x = changing(9, 9);
        due("a CATCH, a CHANGE, a DROP", x.judge(0, 3, 0, 1, 0), -1);
        for (int sort = 0; sort <= 2; sort++) {
            row(x, 1, sort, 0, 0, 0, 5, 2, 1, 7, 1, 3);
            due("of sort " + sort, x.toldFuel(0, 3, 0, 1, 1), 3 + 2 + 1);
        }
        for (int size = 0; size <= 40; size++) {
            x.sheet(1, 2, size);
            due("size " + size, x.judge(0, 0, 9, 1, 1), size % 3 != 0 ? -2 : size == 0 ? -1 : 0);
            due("toldFuel of size " + size, x.toldFuel(0, 0, 9, 1, 1), size % 3 != 0 ? -2 : size == 0 ? 0 : -3);
        }
        // thirteen acts, as many as a SHEET holds
        int[] acts = new int[39];
        NeverStop y = toAndFro();
        for (int i = 0; i < 13; i++) {
            acts[3 * i] = i;
            acts[3 * i + 1] = i % 2;
            acts[3 * i + 2] = i % 4 == 1 ? 1 : 0;
        }
        // from 0 on day 0 to 1 on day 1, caught there on day 3, let off at 0 on day 4, ..
        int[] days = {0, 1, 3, 4, 6, 7, 9, 10, 12, 13, 15, 16, 18};
        for (int i = 0; i < 13; i++) {
            acts[3 * i] = days[i];
        }
        row(y, 0, 2, acts);
        due("thirteen acts, aboard at last", y.judge(0, 0, 0, 1, 0), 13);
        acts[37] = 2;
        acts[38] = 1;
        row(y, 0, 2, acts);
        due("the thirteenth is wrong", y.judge(0, 0, 0, 1, 0), 12);
    }

    private static int judged(int d, int... acts) {
        NeverStop x = toAndFro();
        row(x, 1, 2, acts);
        return x.judge(0, 1, d, 1, 1);
    }

    private static void toldActs() {
        says(TERMS, "The first act that is wrong: its day is not told so, not from the first one on, or not behind the last act's;");
        due("nothing is wrong", judged(0, 0, 0, 0, 1, 1, 1), -1);
        due("day 20000", judged(20000, 20000, 0, 0), 1);
        due("day 20001 is not told so", judged(20000, 20000, 0, 0, 20001, 1, 1), 1);
        due("day 20002 is not told so", judged(0, 20002, 0, 0), 0);
        due("a day below 0", judged(0, -2, 0, 0), 0);
        due("the last int", judged(0, 0, 0, 0, Integer.MAX_VALUE, 1, 1), 1);
        due("the first day", judged(4, 4, 0, 0, 5, 1, 1), -1);
        due("ahead of the first day", judged(5, 4, 0, 0, 5, 1, 1), 0);
        due("ahead of the first day, all", judged(6, 4, 0, 0, 5, 1, 1), 0);
        due("behind the last act's", judged(0, 4, 0, 0, 5, 1, 1), -1);
        due("ahead of the last act's", judged(0, 4, 0, 0, 3, 1, 1), 1);
        due("the last act's", judged(0, 4, 0, 0, 4, 1, 0), 1);
        due("the first of two that are wrong", judged(0, 0, 0, 0, 1, 1, 1, 1, 0, 0, 0, 0, 0), 2);
        due("as ahead of the first", judged(0, 1, 0, 0, 1, 1, 1), 0);
    }

    private static void toldDays() {
        // each reason stands by itself: the way is good but for it
        NeverStop x = worlds(2);
        plain(x, 2, 9, 0, 0);
        row(x, 1, 2, 2, 0, 0, 2, 1, 1);
        due("two acts on a day that can both be done", x.judge(0, 1, 0, 1, 1), 1);
        row(x, 1, 2, 2, 0, 0, 4, 1, 1);
        due("two acts on two days", x.judge(0, 1, 0, 1, 1), -1);
        due("from the first act's day on", x.judge(0, 1, 2, 1, 1), -1);
        due("from the day behind it on", x.judge(0, 1, 3, 1, 1), 0);
        row(x, 1, 2, 2, 0, 0, 20000, 1, 1);
        due("let off on day 20000", x.judge(0, 1, 0, 1, 1), -1);
        row(x, 1, 2, 2, 0, 0, 20002, 1, 1);
        due("let off on day 20002, which isn't told so", x.judge(0, 1, 0, 1, 1), 1);
        row(x, 1, 2, 20000, 0, 0, 20002, 1, 1);
        due("caught on day 20000", x.judge(0, 1, 20000, 1, 1), 1);
    }

    private static void toldWhom() {
        says(TERMS, "what; no such ship, world;");
        for (int what : new int[] {-1, 3, 4, 256, Integer.MIN_VALUE, Integer.MAX_VALUE}) {
            due("what " + what, judged(0, 0, what, 0, 1, 1, 1), 0);
            due("what " + what + " aboard", judged(0, 0, 0, 0, 1, what, 1), 1);
        }
        for (int ship : new int[] {-1, 2, 8, 9, 256, Integer.MIN_VALUE, Integer.MAX_VALUE}) {
            due("catch of ship " + ship, judged(0, 0, 0, ship, 1, 1, 1), 0);
            due("change to ship " + ship, judged(0, 0, 0, 0, 1, 2, ship), 1);
        }
        for (int world : new int[] {-1, 2, 3, 4, 33, Integer.MIN_VALUE, Integer.MAX_VALUE}) {
            due("drop at world " + world, judged(0, 0, 0, 0, 1, 1, world), 1);
        }
        due("the last ship", judged(0, 0, 0, 1, 1, 1, 1), -1);
        due("change to the last ship", judged(0, 0, 0, 0, 1, 2, 1, 3, 1, 1), -1);
    }

    private static void toldImpossible() {
        says(TERMS, "it can't be done so then (CHANGE: at the least world that both PASS).");
        due("a ship that doesn't pass", judged(0, 1, 0, 0), 0);
        due("a world that isn't passed", judged(0, 0, 0, 0, 2, 1, 1), 1);
        due("a DROP at a world", judged(0, 0, 1, 0), 0);
        due("a CHANGE at a world", judged(0, 0, 2, 0), 0);
        due("a CATCH aboard", judged(0, 0, 0, 0, 2, 0, 1), 1);
        due("a CHANGE to itself", judged(0, 0, 0, 0, 2, 2, 0), 1);
        due("a CHANGE to another one", judged(0, 0, 0, 0, 2, 2, 1, 3, 1, 1), -1);
        NeverStop x = changing(9, 9);
        lawOf(x, "catch 0;drop 0;change world*10+5;");
        due("FUEL at world 1, not 2", x.toldFuel(0, 3, 0, 1, 0), 15);
        x.loop(0, 0, 5, 0);
        x.loop(1, 0, 5, 0);
        row(x, 0, 2, 5, 0, 0, 15, 2, 1, 17, 1, 3);
        due("FUEL at world 0", x.toldFuel(0, 3, 0, 1, 0), 5);
        x.loop(0, 0, -1, 0);
        x.loop(0, 1, -1, 0);
        x.loop(0, 3, 7, 0);
        row(x, 0, 2, 7, 0, 0, 15, 2, 1, 17, 1, 3);
        due("FUEL at world 2 alone", x.toldFuel(3, 3, 0, 1, 0), 25);
    }

    private static void toldEnd() {
        says(TERMS, "If none is, but it doesn't end at the other world: how many acts there are.");
        due("no acts", judged(0), 0);
        due("one act, aboard", judged(0, 0, 0, 0), 1);
        due("two acts, at the first world", judged(0, 0, 0, 0, 2, 1, 0), 2);
        due("two acts, aboard another one", judged(0, 0, 0, 0, 1, 2, 1), 2);
        due("four acts, back again", judged(0, 0, 0, 0, 1, 1, 1, 3, 0, 0, 4, 1, 0), 4);
        due("there", judged(0, 0, 0, 0, 1, 1, 1), -1);
        NeverStop x = toAndFro();
        row(x, 1, 2, 0, 0, 1, 1, 1, 1);
        due("two acts, to the first world", x.judge(0, 0, 0, 1, 1), 2);
        due("no FUEL of it", x.toldFuel(0, 0, 0, 1, 1), -3);
    }

    // ---- boats, trips

    private static void catchesBySheet() {
        says(TERMS, "CATCHES are a SHEET by twos, a world and a day.");
        NeverStop x = worlds(2);
        for (int size = 0; size <= 40; size++) {
            x.sheet(0, 2, size);
            due("fewest of size " + size, x.fewest(0, 0), size % 2 != 0 ? -2 : size / 2);
            due("lacks of size " + size, x.lacks(0), size % 2 != 0 ? -2 : size <= 2 ? -1 : 1);
        }
        for (int sort = 0; sort <= 2; sort++) {
            row(x, 0, sort, 1, 7, 0, 3, 1, 7);
            due("world 0 by sort " + sort, x.fewest(0, 0), 1);
            due("world 1 by sort " + sort, x.fewest(1, 0), 2);
            due("lacks by sort " + sort, x.lacks(0), 2);
        }
        int[] outside = {-1, 2, 4, Integer.MIN_VALUE, Integer.MAX_VALUE};
        for (int w : outside) {
            row(x, 0, 2, 0, 0, w, 5);
            due("fewest with world " + w, x.fewest(0, 0), -2);
            due("lacks with world " + w, x.lacks(0), -2);
        }
        for (int d : new int[] {-1, 20001, Integer.MIN_VALUE, Integer.MAX_VALUE}) {
            row(x, 0, 2, 0, 0, 1, d);
            due("fewest with day " + d, x.fewest(0, 0), -2);
            due("lacks with day " + d, x.lacks(0), -2);
        }
        row(x, 0, 2, 0, 0, 0, 20000, 1, 20000);
        due("the last world, the last day", x.fewest(1, 0), 1);
        due("lacks on the last day", x.lacks(0), -1);
    }

    private static void boatsAgain() {
        says(TERMS, "A boat that is used on a day can be used again READY days later.");
        NeverStop x = worlds(1);
        for (int ready : new int[] {1, 4, 99}) {
            x.port(0, 1, ready);
            row(x, 0, 2, 0, 100, 0, 100 + ready);
            due("READY days later", x.fewest(0, 0), 1);
            due("none lacks", x.lacks(0), -1);
            row(x, 0, 2, 0, 100, 0, 99 + ready);
            due("a day less", x.fewest(0, 0), 2);
            due("the second lacks", x.lacks(0), 1);
            row(x, 0, 2, 0, 100 + ready, 0, 100);
            due("the other way round", x.fewest(0, 0), 1);
            row(x, 0, 2, 0, 99 + ready, 0, 100);
            due("the other way round, a day less", x.fewest(0, 0), 2);
            due("by days the first lacks, by their order the second", x.lacks(0), ready == 1 ? 1 : 0);
        }
        x.port(0, 1, 4);
        row(x, 0, 2, 0, 0, 0, 4, 0, 8, 0, 12);
        due("again and again", x.fewest(0, 0), 1);
        row(x, 0, 2, 0, 0, 0, 3, 0, 4, 0, 7);
        due("two by turns", x.fewest(0, 0), 2);
        row(x, 0, 2, 0, 0, 0, 3, 0, 4, 0, 6, 0, 7);
        due("a third", x.fewest(0, 0), 3);
        x.port(0, 0, 2);
        due("the third lacks", x.lacks(0), 3);
        x.port(0, 0, 3);
        due("none lacks", x.lacks(0), -1);
        x.port(0, 0, 0);
        due("no boats", x.lacks(0), 0);
    }

    private static void tenTrips() {
        says(TERMS, "TRIPS are numbered from 0 on, 10 at most: from a world to another one, SO MANY, from a day on.");
        NeverStop x = toAndFro();
        for (int i = 0; i < 10; i++) {
            due("how many", x.count(2), i);
            due("trip " + i, x.trip(i % 2, 1 - i % 2, 10 * i, 1 + i % 9), i);
        }
        due("an eleventh", x.trip(0, 1, 0, 1), -4);
        due("how many", x.count(2), 10);
        for (int i = 0; i < 10; i++) {
            due("from its day on, " + i, x.ride(i, 1), 10 * i + i % 2);
            due("its people, " + i, x.aboard(0, 10 * i + i % 2, 1 << i), 1 + i % 9);
        }
        due("from a world to itself", toAndFro().trip(0, 0, 0, 1), -2);
        due("from the last world to itself", toAndFro().trip(1, 1, 0, 1), -2);
        within("from", v -> v == 1 ? toAndFro().trip(1, 0, 0, 1) : toAndFro().trip(v, 1, 0, 1), 0, 1, -2);
        within("to", v -> v == 1 ? toAndFro().trip(0, 1, 0, 1) : toAndFro().trip(1, v, 0, 1), 0, 1, -2);
    }

    private static void rideIs(NeverStop x, int i, int ship, int on, int off) {
        due("the ship of trip " + i, x.ride(i, 0), ship);
        due("the catch of trip " + i, x.ride(i, 1), on);
        due("the end of trip " + i, x.ride(i, 2), off);
    }

    private static void rideRoom() {
        says(TERMS, "A RIDE on a ship whose ROOM is no less:");
        NeverStop x = worlds(2);
        plain(x, 10, 3, 0, 2);
        plain(x, 10, 5, 0, 4);
        for (int n : new int[] {1, 3, 4, 5, 6}) {
            x.trip(0, 1, 0, n);
        }
        rideIs(x, 0, 0, 0, 2);
        rideIs(x, 1, 0, 0, 2);
        rideIs(x, 2, 1, 0, 4);
        rideIs(x, 3, 1, 0, 4);
        rideIs(x, 4, -1, -1, -1);
    }

    private static void rideDays() {
        says(TERMS, "caught on the first day from that one on on which it PASSES the one world,");
        NeverStop x = worlds(3);
        plain(x, 10, 9, 3, 5, 3);
        for (int d : new int[] {0, 3, 4, 13, 20000}) {
            x.trip(0, 1, d, 1);
        }
        rideIs(x, 0, 0, 3, 5);
        rideIs(x, 1, 0, 3, 5);
        rideIs(x, 2, 0, 13, 15);
        rideIs(x, 3, 0, 13, 15);
        rideIs(x, 4, 0, 20003, 20005);
        says(TERMS, "let off on the first day behind that on which it PASSES the other one;");
        x.trip(1, 0, 0, 1);
        rideIs(x, 5, 0, 5, 13);
        x.trip(0, 2, 0, 1);
        rideIs(x, 6, 0, 3, 13);
        x.loop(0, 2, 4, 0);
        rideIs(x, 6, 0, 3, 4);
        x.loop(0, 2, 2, 0);
        rideIs(x, 6, 0, 3, 12);
        x.loop(0, 2, -1, 0);
        rideIs(x, 6, -1, -1, -1);
        x.loop(0, 2, 4, 0);
        x.loop(0, 0, -1, 0);
        rideIs(x, 6, -1, -1, -1);
    }

    private static void rideSoonest() {
        says(TERMS, "of all ships the one by which that is soonest, of like ones the least.");
        NeverStop x = worlds(2);
        plain(x, 10, 9, 0, 5);
        x.trip(0, 1, 0, 1);
        rideIs(x, 0, 0, 0, 5);
        plain(x, 10, 9, 1, 5);
        rideIs(x, 0, 0, 0, 5);
        plain(x, 10, 9, 3, 4);
        rideIs(x, 0, 2, 3, 4);
        plain(x, 10, 9, 1, 4);
        rideIs(x, 0, 2, 3, 4);
        plain(x, 10, 9, 2, 3);
        rideIs(x, 0, 4, 2, 3);
        x.turn(0, 9);
        rideIs(x, 0, 4, 2, 3);
        x.trip(0, 1, 9, 1);
        // ship 0 from 9 till 14; ship 4 from 12 till 13
        rideIs(x, 1, 4, 12, 13);
        due("no ships", worlds(2).trip(0, 1, 0, 1), 0);
    }

    private static void aboardDays() {
        says(TERMS, "They are ABOARD from the day on which they are caught till ahead of that on which they are let off.");
        NeverStop x = worlds(2);
        plain(x, 10, 9, 3, 6);
        plain(x, 10, 9, 6, 6);
        x.trip(0, 1, 0, 4);
        int[] people = {0, 0, 0, 4, 4, 4, 0, 0, 0, 0, 0, 0, 0, 0};
        for (int d = 0; d < people.length; d++) {
            due("on day " + d, x.aboard(0, d, 1), people[d]);
            due("on day " + d + ", another ship", x.aboard(1, d, 1), 0);
        }
        x.loop(0, 1, 4, 0);
        due("a day alone", x.aboard(0, 3, 1), 4);
        due("not the next one", x.aboard(0, 4, 1), 0);
    }

    private static void bread() {
        says(TERMS, "BREAD of a ship: 10 times its ROOM at first; "
            + "each day (counted from 1) ROOM by 2 (cut) more, and one less for each ABOARD.");
        NeverStop x = new NeverStop();
        for (int has : new int[] {0, 1, 2, 5, 99}) {
            x.ship(0, 5, 0, has);
        }
        x.ship(2, 5, 0, 99);
        // with one more than half of it aboard: 0 is left behind day 10 times ROOM, less behind the next
        int[] halves = {0, 0, 1, 2, 49, 99};
        int[] rooms = {0, 1, 2, 5, 99, 198};
        for (int s = 0; s < 6; s++) {
            due("half of " + rooms[s], x.bread(s, halves[s]), -1);
            due("none aboard of " + rooms[s], x.bread(s, 0), -1);
            due("one more than half of " + rooms[s], x.bread(s, halves[s] + 1), 10 * rooms[s] + 1);
            due("two more than half of " + rooms[s], x.bread(s, halves[s] + 2), 5 * rooms[s] + 1);
            due("all on day 1, of " + rooms[s], x.grow(s, 1), Math.min(999, 10 * rooms[s] + halves[s]));
            due("just half for good, of " + rooms[s], x.grow(s, 9999), halves[s]);
        }
        due("just nothing behind day 1", x.bread(3, 52), 2);
        due("less than nothing behind day 1", x.bread(3, 53), 1);
    }

    private static void imageKeeps() {
        says(TERMS, "AN IMAGE keeps TURNED of all ships, BOATS and READY of all worlds, how many TRIPS, THE LAW");
        NeverStop x = worlds(4);
        for (int s = 0; s < 9; s++) {
            plain(x, 10, 9, s, 9);
            x.turn(s, s);
        }
        for (int w = 0; w < 4; w++) {
            x.port(w, 0, 9 - w);
            x.port(w, 1, 99 - w);
        }
        x.trip(0, 1, 0, 1);
        lawOf(x, "catch 5;drop 5;change 5;");
        x.image();
        for (int s = 0; s < 9; s++) {
            x.turn(s, 9 - s);
        }
        for (int w = 0; w < 4; w++) {
            x.port(w, 0, 0);
            x.port(w, 1, 1);
        }
        for (int i = 1; i < 10; i++) {
            x.trip(1, 0, 0, 1);
        }
        x.force(0);
        due("back()", x.back(), 9);
        for (int s = 0; s < 9; s++) {
            due("TURNED of " + s, x.shipTold(s, 4), s);
        }
        for (int w = 0; w < 4; w++) {
            due("BOATS of " + w, x.port(w, 0, 0), 9 - w);
            due("READY of " + w, x.port(w, 1, 1), 99 - w);
        }
        due("TRIPS", x.count(2), 1);
        due("THE LAW", x.count(4), 1);
        due("its FUEL", x.fuel(0, 0, 0, 0, 1), 5);
        // ship 5 passes world 0 on (5 and 5) modulo 10, world 1 on (9 and 5) modulo 10
        due("the trip that is left", x.ride(0, 0), 5);
        due("one that isn't", x.ride(1, 0), -5);
        due("the next trip", x.trip(0, 1, 3, 2), 1);
    }

    private static void cameSince() {
        says(TERMS, "(ships, worlds that came since stay as they are).");
        NeverStop x = new NeverStop();
        due("an image of nothing", x.image(), 0);
        x.world(7, 77);
        x.ship(0, 10, 0, 9);
        x.loop(0, 0, 4, 5);
        x.turn(0, 3);
        lawOf(x, "catch 5;drop 5;change 5;");
        feedAll(x, "abc");
        row(x, 0, 2, 1, 2);
        due("back()", x.back(), 1);
        due("ships", x.count(1), 1);
        due("worlds", x.count(0), 1);
        due("TURNED", x.shipTold(0, 4), 3);
        due("BOATS", x.port(0, 0, 1), 7);
        due("READY", x.port(0, 1, 1), 77);
        due("PHASE", x.shipTold(0, 5), 4);
        due("SPEED", x.shipTold(0, 9), 5);
        due("TEXTS", x.count(3), 2);
        due("THE LAW", x.count(4), 0);
        due("bytes of THE TAPE", x.count(5), 3);
        due("a SHEET", x.cell(0, 1, 2), 1);
    }

    // ---- the host

    private static void missingSheets() {
        says(TERMS, "SHEETS 0 .. 3 are rows of numbers, or missing (as all are at first):");
        NeverStop x = worlds(2);
        for (int s = 0; s < 4; s++) {
            due("cell", x.cell(s, 0, 0), -11);
            due("copy from", x.copy(s, 0, s, 0, 0), -11);
            due("judge", x.judge(0, 0, 0, 1, s), -11);
            due("toldFuel", x.toldFuel(0, 0, 0, 1, s), -11);
            due("fewest", x.fewest(0, s), -11);
            due("lacks", x.lacks(s), -11);
            due("tripsBy", x.tripsBy(s, 0, 0, 1), -11);
        }
        within("sheet", v -> x.sheet(v, 0, 3), 0, 3, -2);
        due("a row", x.cell(0, 2, 1), 1);
        due("missing again", x.sheet(0, -1, 3), 1);
        due("as at first", x.cell(0, 2, 1), -11);
        due("another one stays", x.cell(3, 2, 1), 1);
    }

    private static void sorts() {
        says(TERMS, "of sort 0 bytes, 1 shorts (with a sign), 2 ints, 40 at most.");
        within("sort", v -> new NeverStop().sheet(0, v, 1), -1, 2, -2);
        for (int sort = 0; sort <= 2; sort++) {
            NeverStop x = worlds(2);
            plain(x, 2, 9, 0, 1);
            plain(x, 2, 9, 1, 0);
            due("40", x.sheet(0, sort, 40), 1);
            due("the last", x.cell(0, 39, 0), 1);
            due("41", x.sheet(0, sort, 41), -2);
            due("there are 40 yet", x.cell(0, 39, 1), 1);
            due("behind the last", x.cell(0, 40, 1), -12);
            x.cell(0, 36, 0);
            x.cell(0, 37, 1);
            x.cell(0, 38, 127);
            due("the last four", x.tripsBy(0, sort, 36, 1), 1);
            due("a day that a byte holds", x.ride(0, 1), 127);
            x.cell(0, 38, 20000);
            due("a day that a short holds", x.tripsBy(0, sort, 36, 1), 1);
            // of 20000 a byte holds the lowest 8 bits
            due("that day", x.ride(1, 1), sort == 0 ? 20000 & 127 : 20000);
            x.cell(0, 38, 65536 + 256 + 5);
            due("a day that an int holds", x.tripsBy(0, sort, 36, 1), sort == 2 ? 0 : 1);
            due("what a byte, a short hold of it", x.ride(2, 1), sort == 2 ? -5 : sort == 1 ? 261 : 5);
        }
    }

    private static void firstRefusal() {
        says(TERMS, "REFUSALS, of several the first one told: BAD a number is not as told; STATE as told; FULL.");
        NeverStop x = worlds(4);
        due("world: BAD ahead of FULL", x.world(10, 1), -2);
        due("world: FULL", x.world(9, 1), -4);
        due("loop: no ship ahead of no world", x.loop(0, 9, 99, 99), -5);
        plain(x, 5, 9, 1);
        due("loop: no world ahead of BAD", x.loop(0, 9, 99, 99), -7);
        due("loop: BAD", x.loop(0, 0, 99, 0), -2);
        due("miss: no day ahead of STATE", x.miss(0, 0, 20001), -7);
        due("miss: no world ahead of no day", x.miss(0, 4, 20001), -5);
        due("miss: STATE", x.miss(0, 0, 0), -3);
        due("fuel: BAD ahead of no ship", x.fuel(3, 1, 0, -1, 0), -2);
        due("fuel: no ship ahead of no day", x.fuel(2, 1, 0, -1, 0), -5);
        due("feed: BAD ahead of FULL", x.feed(0, 9), -2);
        due("judge: -5 ahead of BAD", x.judge(4, 0, 0, 1, 4), -5);
        due("judge: BAD ahead of -11", x.judge(0, 0, 0, 1, 4), -2);
        due("toldFuel: -11 ahead of STATE", x.toldFuel(0, 1, 0, 1, 0), -11);
        row(x, 0, 2);
        due("toldFuel: STATE", x.toldFuel(0, 1, 0, 1, 0), -3);
        due("ride: no TRIP ahead of what", x.ride(0, 3), -5);
    }

    private static void hostRefusals() {
        says(TERMS, "The host's: -11 nothing there, -12 a place outside, -13 of another sort or KIND, -14 a size below 0.");
        NeverStop x = worlds(2);
        plain(x, 5, 9, 0);
        due("nothing there: cell", x.cell(0, 0, 0), -11);
        due("nothing there: taken", x.taken(2, 6), -11);
        due("a size below 0", x.sheet(0, 2, -1), -14);
        due("the last size below 0", x.sheet(0, 2, Integer.MIN_VALUE), -14);
        x.sheet(0, 2, 3);
        x.sheet(1, 1, 3);
        due("a place outside: ahead", x.cell(0, -1, 0), -12);
        due("a place outside: behind", x.cell(0, 3, 0), -12);
        due("a place outside: copy", x.copy(0, 1, 0, 0, 3), -12);
        due("a place outside: tripsBy", x.tripsBy(0, 2, 0, 1), -12);
        due("a place outside: taken", x.taken(13, 0), -12);
        due("of another sort: copy", x.copy(0, 0, 1, 0, 1), -13);
        due("of another sort: tripsBy", x.tripsBy(0, 1, 0, 1), -13);
        due("of another KIND: taken", x.taken(4, 1), -13);
        due("of another KIND: a world", x.taken(0, 0), -13);
        due("of another KIND: a ship", x.taken(4, 6), -13);
    }

    /** RefusalTest has all of them; these are the ones that could leave half of what they were asked behind. */
    private static void changeNothing() {
        says(TERMS, "They change nothing.");
        NeverStop x = worlds(2);
        plain(x, 5, 9, 1, 2);
        x.loop(0, 0, 1, 4);
        due("loop", x.loop(0, 0, 3, 10), -2);
        due("PHASE stays", x.shipTold(0, 5), 1);
        due("SPEED stays", x.shipTold(0, 9), 4);
        due("loop", x.loop(0, 0, 5, 7), -2);
        due("PHASE stays", x.shipTold(0, 5), 1);
        due("SPEED stays", x.shipTold(0, 9), 4);
        due("feed", feedAll(x, "a".repeat(155)), 155);
        due("feed", x.feed(0, 6), -4);
        due("THE TAPE stays", x.count(5), 155);
        due("five bytes more", x.feed(0, 5), 160);
        row(x, 0, 2, 0, 1, 0, 3);
        row(x, 1, 2, 1, 1, 1);
        due("copy", x.copy(1, 0, 0, 2, 3), -12);
        due("the SHEET stays", x.tripsBy(0, 2, 0, 1), 1);
        due("its people", x.aboard(0, 1, 1), 3);
        due("sheet", x.sheet(0, 1, 41), -2);
        due("sheet", x.sheet(0, 1, -1), -14);
        due("sort and size stay", x.tripsBy(0, 2, 0, 1), 1);
        due("back", x.back(), -3);
        due("TRIPS stay", x.count(2), 2);
    }
}
