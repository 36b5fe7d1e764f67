/** Promises 14 to 17: least, many, cheapest, pared. */
public final class SeedsTest {
    public static void main(String[] args) {
        star();
        moreButLesser();
        freePosts();
        paredFromTheGreatest();
        edges();
        wrong();
        Check.end();
    }

    private static void expect(LampNet x, int rule, int least, int many, int cheapest, int pared) {
        Check.due("least " + rule, x.least(rule), least);
        Check.due("many " + rule, x.many(rule), many);
        Check.due("cheapest " + rule, x.cheapest(rule), cheapest);
        Check.due("pared " + rule, x.pared(rule), pared);
    }

    private static void star() {
        LampNet x = Nets.star(5);
        expect(x, 0, 1, 5, 1, 1);
        expect(x, 1, 14, 4, 14, 14);
        expect(x, 2, 1, 1, 1, 1);
        x.price(0, 1000);
        expect(x, 0, 1, 5, 2, 1);
        expect(x, 1, 14, 4, 14, 14);
        expect(x, 2, 1, 1, 14, 1);
        x.price(1, 2);
        expect(x, 0, 1, 5, 4, 1);
        expect(x, 1, 14, 4, 28, 14);
    }

    /** Seeds {0, 1} and {2} cost the same: the lesser has more posts. */
    private static void moreButLesser() {
        LampNet x = Nets.posts(3);
        x.road(2, 0, 1);
        x.road(2, 1, 1);
        x.road(0, 2, 1);
        x.road(1, 2, 1);
        x.bar(2, 2);
        x.price(2, 2);
        expect(x, 0, 4, 1, 3, 3);
        x.price(0, 2);
        expect(x, 0, 4, 1, 4, 3);
    }

    private static void freePosts() {
        LampNet x = Nets.posts(2);
        x.road(1, 0, 1);
        x.price(0, 0);
        x.price(1, 0);
        expect(x, 0, 2, 1, 2, 2);
        LampNet ring = Nets.ring(4);
        ring.price(3, 0);
        ring.price(2, 0);
        Check.due("two that cost nothing", ring.cheapest(1), 12);
        Check.due("one that costs nothing", ring.cheapest(0), 4);
        ring.price(2, 1);
        Check.due("the lesser with a free one", ring.cheapest(1), 9);
    }

    private static void paredFromTheGreatest() {
        LampNet chain = Nets.chain(4);
        expect(chain, 1, 1, 1, 1, 1);
        LampNet back = Nets.posts(4);
        for (int p = 0; p < 3; p++) {
            back.road(p + 1, p, 1);
        }
        expect(back, 1, 8, 1, 8, 8);
        // Either end alone would do: the greatest is left out first.
        LampNet path = Nets.path(4);
        expect(path, 1, 1, 2, 1, 1);
        // The pared seed need not be one of the fewest.
        LampNet spread = Nets.posts(4);
        spread.road(3, 0, 1);
        spread.road(3, 1, 1);
        spread.road(3, 2, 1);
        spread.road(0, 3, 1);
        expect(spread, 0, 1, 2, 1, 1);
        spread.bar(3, 3);
        spread.road(1, 3, 1);
        spread.road(2, 3, 1);
        expect(spread, 0, 8, 1, 8, 7);
    }

    private static void edges() {
        LampNet none = new LampNet();
        LampNet lone = Nets.posts(12);
        LampNet complete = Nets.complete(12);
        for (int rule = 0; rule < 3; rule++) {
            expect(none, rule, 0, 1, 0, 0);
            expect(lone, rule, 4095, 1, 4095, 4095);
        }
        expect(complete, 0, 1, 12, 1, 1);
        // With eleven on the last one is forced; with fewer two are off behind each.
        expect(complete, 1, 2047, 12, 2047, 2047);
        expect(complete, 2, 1, 12, 1, 1);
        for (int p = 0; p < 12; p++) {
            complete.bar(p, 6);
        }
        expect(complete, 0, 63, 924, 63, 63);
        for (int p = 0; p < 12; p++) {
            complete.bar(p, 0);
        }
        expect(complete, 0, 0, 1, 0, 0);
        LampNet free = Nets.posts(3);
        for (int p = 0; p < 3; p++) {
            free.price(p, 0);
        }
        expect(free, 1, 7, 1, 7, 7);
    }

    private static void wrong() {
        LampNet x = Nets.path(3);
        for (int rule : new int[] {-1, 3, Integer.MIN_VALUE, Integer.MAX_VALUE}) {
            expect(x, rule, -2, -2, -2, -2);
            expect(new LampNet(), rule, -2, -2, -2, -2);
        }
    }
}
