/** The edges that promises 14 to 17 name, each with a test of its own. */
public final class SeedsEdgesTest {
    private static final int[] NO_RULES = {-1, 3, 4, Integer.MIN_VALUE, Integer.MAX_VALUE};

    public static void main(String[] args) {
        leastOfNoRule();
        leastWithoutPosts();
        leastOfAllPosts();
        leastOfNone();
        leastOfFewestThenLesser();
        manyOfNoRule();
        manyWithoutPosts();
        manyFromOneTo924();
        cheapestOfNoRule();
        cheapestWithoutPosts();
        cheapestAtPrices0And1000();
        cheapestOfOneSumLesser();
        cheapestWhenAllCostNothing();
        paredOfNoRule();
        paredWithoutPosts();
        paredFromTheGreatestOn();
        paredOfAllAndOfNone();
        Check.end();
    }

    /** Promise 14: '-2 when there is no such RULE' */
    private static void leastOfNoRule() {
        for (int rule : NO_RULES) {
            Check.due("least by " + rule, Nets.path(3).least(rule), -2);
            Check.due("least by " + rule + " without posts", new LampNet().least(rule), -2);
            Check.due("least by " + rule + " of twelve", Nets.posts(12).least(rule), -2);
        }
        for (int rule = 0; rule < 3; rule++) {
            Check.due("least by " + rule, Nets.path(3).least(rule), 1);
        }
    }

    private static void leastWithoutPosts() {
        for (int rule = 0; rule < 3; rule++) {
            Check.due("without posts", new LampNet().least(rule), 0);
            Check.due("of one", Nets.posts(1).least(rule), 1);
        }
    }

    private static void leastOfAllPosts() {
        for (int rule = 0; rule < 3; rule++) {
            Check.due("no roads, all twelve", Nets.posts(12).least(rule), 4095);
        }
        Check.due("all but the last", Nets.complete(12).least(1), 2047);
    }

    private static void leastOfNone() {
        LampNet x = Nets.posts(12);
        for (int p = 0; p < 12; p++) {
            x.bar(p, 0);
        }
        Check.due("bars of 0", x.least(0), 0);
        Check.due("by FORCED", x.least(1), 4095);
        x.bar(11, 1);
        Check.due("but one", x.least(0), 2048);
    }

    /** 'with the fewest posts the LESSER one' */
    private static void leastOfFewestThenLesser() {
        LampNet x = Nets.posts(3);
        x.road(2, 0, 1);
        x.road(2, 1, 1);
        x.road(0, 2, 1);
        x.road(1, 2, 1);
        x.bar(2, 2);
        // {0, 1} is less as a number than {2}, but has more posts.
        Check.due("one post", x.least(0), 4);
        x.bar(2, 1);
        Check.due("the lesser of three of one post", x.least(0), 1);
    }

    /** Promise 15: '-2 likewise' */
    private static void manyOfNoRule() {
        for (int rule : NO_RULES) {
            Check.due("many by " + rule, Nets.path(3).many(rule), -2);
            Check.due("many by " + rule + " without posts", new LampNet().many(rule), -2);
            Check.due("many by " + rule + " of twelve", Nets.posts(12).many(rule), -2);
        }
        Check.due("many by 0", Nets.path(3).many(0), 3);
        Check.due("many by 2", Nets.path(3).many(2), 3);
    }

    private static void manyWithoutPosts() {
        for (int rule = 0; rule < 3; rule++) {
            Check.due("without posts", new LampNet().many(rule), 1);
            Check.due("of one", Nets.posts(1).many(rule), 1);
        }
    }

    /** One of all, one of none, and as many as there can be: six of twelve. */
    private static void manyFromOneTo924() {
        for (int rule = 0; rule < 3; rule++) {
            Check.due("all twelve", Nets.posts(12).many(rule), 1);
        }
        LampNet x = Nets.complete(12);
        for (int p = 0; p < 12; p++) {
            x.bar(p, 6);
        }
        Check.due("each six", x.many(0), 924);
        for (int p = 0; p < 12; p++) {
            x.bar(p, 0);
        }
        Check.due("none", x.many(0), 1);
        Check.due("each eleven", x.many(1), 12);
    }

    /** Promise 16: '-2 likewise' */
    private static void cheapestOfNoRule() {
        for (int rule : NO_RULES) {
            Check.due("cheapest by " + rule, Nets.path(3).cheapest(rule), -2);
            Check.due("cheapest by " + rule + " without posts", new LampNet().cheapest(rule), -2);
            Check.due("cheapest by " + rule + " of twelve", Nets.posts(12).cheapest(rule), -2);
        }
        Check.due("cheapest by 0", Nets.path(3).cheapest(0), 1);
        Check.due("cheapest by 2", Nets.path(3).cheapest(2), 1);
    }

    private static void cheapestWithoutPosts() {
        for (int rule = 0; rule < 3; rule++) {
            Check.due("without posts", new LampNet().cheapest(rule), 0);
        }
    }

    private static void cheapestAtPrices0And1000() {
        LampNet x = Nets.posts(12);
        for (int p = 0; p < 12; p++) {
            x.price(p, 1000);
        }
        Check.due("all twelve for 12000", x.cheapest(1), 4095);
        for (int p = 0; p < 11; p++) {
            x.road(11, p, 1);
        }
        Check.due("one for 1000", x.cheapest(0), 2048);
        x.road(0, 11, 1);
        x.price(0, 999);
        Check.due("one for 999", x.cheapest(0), 1);
        x.price(11, 0);
        Check.due("one for nothing", x.cheapest(0), 2048);
        // {0 .. 9} forces 11 and by it 10; with 11, which costs nothing, the sum would be the same.
        Check.due("the lesser of one sum leaves out what costs nothing", x.cheapest(1), 1023);
    }

    /** 'with the least sum of PRICES the LESSER one': of posts that cost nothing, too */
    private static void cheapestOfOneSumLesser() {
        LampNet ring = Nets.ring(12);
        Check.due("the first of twelve", ring.cheapest(0), 1);
        ring.price(0, 2);
        Check.due("the first of eleven", ring.cheapest(0), 2);
        ring.price(10, 0);
        ring.price(11, 0);
        Check.due("the lesser of those for nothing", ring.cheapest(0), 1024);
        Check.due("two next to each other for nothing", ring.cheapest(1), 3072);
        // {0, 1} for 1 + 1 and {2} for 2: more posts, but less as a number.
        LampNet x = Nets.posts(3);
        x.road(2, 0, 1);
        x.road(2, 1, 1);
        x.road(0, 2, 1);
        x.road(1, 2, 1);
        x.bar(2, 2);
        x.price(2, 2);
        Check.due("one sum", x.cheapest(0), 3);
        x.price(2, 1);
        Check.due("a lesser sum", x.cheapest(0), 4);
    }

    private static void cheapestWhenAllCostNothing() {
        LampNet x = Nets.chain(12);
        for (int p = 0; p < 12; p++) {
            x.price(p, 0);
        }
        for (int rule = 0; rule < 3; rule++) {
            Check.due("the lesser of all that go", x.cheapest(rule), 1);
        }
        x.bar(0, 0);
        Check.due("no post at all", x.cheapest(0), 0);
        x.price(0, 1000);
        Check.due("no post at all, whatever it would cost", x.cheapest(0), 0);
    }

    /** Promise 17: '-2 likewise' */
    private static void paredOfNoRule() {
        for (int rule : NO_RULES) {
            Check.due("pared by " + rule, Nets.path(3).pared(rule), -2);
            Check.due("pared by " + rule + " without posts", new LampNet().pared(rule), -2);
            Check.due("pared by " + rule + " of twelve", Nets.posts(12).pared(rule), -2);
        }
        Check.due("pared by 0", Nets.path(3).pared(0), 1);
        Check.due("pared by 2", Nets.path(3).pared(2), 1);
    }

    private static void paredWithoutPosts() {
        for (int rule = 0; rule < 3; rule++) {
            Check.due("without posts", new LampNet().pared(rule), 0);
        }
    }

    /** 'one by one from the greatest on' */
    private static void paredFromTheGreatestOn() {
        LampNet x = Nets.star(12);
        Check.due("the middle is kept, though each leaf would do", x.pared(0), 1);
        Check.due("all leaves but one, and the middle is left out last", x.pared(1), 2046);
        LampNet back = Nets.posts(3);
        back.road(2, 0, 1);
        back.road(2, 1, 1);
        back.road(0, 2, 1);
        back.road(1, 2, 1);
        back.bar(2, 2);
        Check.due("{2} would be fewer, but 2 is left out first", back.pared(0), 3);
        Check.due("as it is here", back.least(0), 4);
    }

    private static void paredOfAllAndOfNone() {
        LampNet x = Nets.posts(12);
        for (int rule = 0; rule < 3; rule++) {
            Check.due("none can be left out", x.pared(rule), 4095);
        }
        for (int p = 0; p < 12; p++) {
            x.bar(p, 0);
        }
        Check.due("all can be left out", x.pared(0), 0);
        x.bar(0, 1);
        Check.due("all but the least", x.pared(0), 1);
        x.bar(0, 0);
        x.bar(11, 1);
        Check.due("all but the greatest", x.pared(0), 2048);
    }
}
