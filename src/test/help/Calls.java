/** Calls by their names. */
final class Calls {
    private Calls() {
    }

    static int ask(NeverStop x, String name, long... a) {
        int[] i = new int[a.length];
        for (int k = 0; k < a.length; k++) {
            i[k] = (int) a[k];
        }
        switch (name) {
            case "world": return x.world(i[0], i[1]);
            case "port": return x.port(i[0], i[1], i[2]);
            case "ship": return x.ship(i[0], i[1], i[2], i[3]);
            case "loop": return x.loop(i[0], i[1], i[2], i[3]);
            case "turn": return x.turn(i[0], i[1]);
            case "shipTold": return x.shipTold(i[0], i[1]);
            case "count": return x.count(i[0]);
            case "passes": return x.passes(i[0], i[1]);
            case "here": return x.here(i[0], i[1]);
            case "often": return x.often(i[0], i[1], i[2], i[3]);
            case "next": return x.next(i[0], i[1], i[2]);
            case "meets": return x.meets(i[0], i[1], i[2], i[3]);
            case "seldom": return x.seldom(i[0], i[1]);
            case "miss": return x.miss(i[0], i[1], i[2]);
            case "waits": return x.waits(i[0], i[1], i[2]);
            case "choose": return x.choose(i[0], i[1], i[2], i[3]);
            case "feed": return x.feed(a[0], i[1]);
            case "text": return x.text();
            case "force": return x.force(i[0]);
            case "fuel": return x.fuel(i[0], i[1], i[2], i[3], i[4]);
            case "soon": return x.soon(i[0], i[1], i[2], i[3]);
            case "reach": return x.reach(i[0], i[1], i[2], i[3]);
            case "least": return x.least(i[0], i[1], i[2], i[3], i[4]);
            case "edge": return x.edge(i[0], i[1], i[2], i[3], i[4]);
            case "bears": return x.bears(i[0], i[1], i[2], i[3]);
            case "needed": return x.needed(i[0], i[1], i[2], i[3]);
            case "judge": return x.judge(i[0], i[1], i[2], i[3], i[4]);
            case "toldFuel": return x.toldFuel(i[0], i[1], i[2], i[3], i[4]);
            case "fewest": return x.fewest(i[0], i[1]);
            case "lacks": return x.lacks(i[0]);
            case "trip": return x.trip(i[0], i[1], i[2], i[3]);
            case "ride": return x.ride(i[0], i[1]);
            case "aboard": return x.aboard(i[0], i[1], i[2]);
            case "book": return x.book(i[0]);
            case "most": return x.most(i[0]);
            case "together": return x.together(i[0], i[1], i[2], i[3], i[4]);
            case "bread": return x.bread(i[0], i[1]);
            case "grow": return x.grow(i[0], i[1]);
            case "image": return x.image();
            case "back": return x.back();
            case "sheet": return x.sheet(i[0], i[1], i[2]);
            case "cell": return x.cell(i[0], i[1], i[2]);
            case "copy": return x.copy(i[0], i[1], i[2], i[3], i[4]);
            case "tripsBy": return x.tripsBy(i[0], i[1], i[2], i[3]);
            case "taken": return x.taken(i[0], i[1]);
            default: throw new IllegalArgumentException(name);
        }
    }
}
