/** The edges that 'Terms' names, each with a test of its own. */
public final class TermsEdgesTest {
    private static final int LEAST = Integer.MIN_VALUE;
    private static final int GREATEST = Integer.MAX_VALUE;

    public static void main(String[] args) {
        postsFrom0Twelve();
        bar0To99();
        bar1AtFirst();
        price0To1000();
        price1AtFirst();
        weight1To9OrNone();
        roadToAnotherOne();
        behindIsTheWayOfTheRoad();
        refusedGoesAheadOfNone();
        lesserAsANumber();
        endWithTick0();
        seenWithoutSight();
        fortOfOnePostOrMore();
        allOnAtTheEnd();
        noHandWhenNoneIsOff();
        noWallWhenThereIsNone();
        noStrikeWhereOneStands();
        lostWhenAllAreOn();
        Check.end();
    }

    /** 'POSTS are numbered from 0, 12 at most' */
    private static void postsFrom0Twelve() {
        LampNet x = new LampNet();
        for (int p = 0; p < 12; p++) {
            Check.due("no post " + p + " yet", x.of(p, 0), -2);
            Check.due("post " + p, x.post(), p);
            Check.due("now post " + p, x.of(p, 0), 1);
        }
        Check.due("no 13th post", x.post(), -2);
        Check.due("no post 12", x.of(12, 0), -2);
    }

    /** 'a BAR (0 to 99 ..)' */
    private static void bar0To99() {
        LampNet x = Nets.posts(12);
        for (int p = 0; p < 12; p += 11) {
            Check.due("bar 99", x.bar(p, 99), 1);
            Check.due("bar 100", x.bar(p, 100), -2);
            Check.due("greatest bar", x.bar(p, GREATEST), -2);
            Check.due("it is 99", x.of(p, 0), 99);
            Check.due("bar 0", x.bar(p, 0), 99);
            Check.due("bar -1", x.bar(p, -1), -2);
            Check.due("least bar", x.bar(p, LEAST), -2);
            Check.due("it is 0", x.of(p, 0), 0);
        }
    }

    /** '(.. 1 at first)': of each post, also when the others have another bar */
    private static void bar1AtFirst() {
        LampNet x = new LampNet();
        for (int p = 0; p < 12; p++) {
            x.post();
            Check.due("bar at first", x.of(p, 0), 1);
            Check.due("it was 1", x.bar(p, 99 - p), 1);
        }
    }

    /** 'a PRICE (0 to 1000 ..)' */
    private static void price0To1000() {
        LampNet x = Nets.posts(12);
        for (int p = 0; p < 12; p += 11) {
            Check.due("price 1000", x.price(p, 1000), 1);
            Check.due("price 1001", x.price(p, 1001), -2);
            Check.due("greatest price", x.price(p, GREATEST), -2);
            Check.due("it is 1000", x.of(p, 1), 1000);
            Check.due("price 0", x.price(p, 0), 1000);
            Check.due("price -1", x.price(p, -1), -2);
            Check.due("least price", x.price(p, LEAST), -2);
            Check.due("it is 0", x.of(p, 1), 0);
        }
    }

    private static void price1AtFirst() {
        LampNet x = new LampNet();
        for (int p = 0; p < 12; p++) {
            x.post();
            Check.due("price at first", x.of(p, 1), 1);
            Check.due("it was 1", x.price(p, 1000 - p), 1);
        }
    }

    /** 'a ROAD with a WEIGHT 1 to 9, or none': the weight shows in the bar that it meets */
    private static void weight1To9OrNone() {
        LampNet x = Nets.posts(2);
        for (int weight = 1; weight <= 9; weight++) {
            x.road(0, 1, weight);
            x.bar(1, weight);
            Check.due("weight " + weight + " meets its bar", x.go(0, 1), 3);
            x.bar(1, weight + 1);
            Check.due("weight " + weight + " meets no more", x.go(0, 1), 1);
        }
        Check.due("weight 10", x.road(0, 1, 10), -2);
        Check.due("weight -1", x.road(0, 1, -1), -2);
        Check.due("none", x.road(0, 1, 0), 9);
        Check.due("none is behind", x.of(0, 2), 0);
    }

    /** 'From a post to another one' */
    private static void roadToAnotherOne() {
        LampNet x = Nets.posts(12);
        for (int p = 0; p < 12; p++) {
            Check.due("to itself", x.road(p, p, 1), -2);
            Check.due("to itself, greatest weight", x.road(p, p, 9), -2);
            Check.due("to itself, none", x.road(p, p, 0), -2);
            Check.due("none is behind", x.of(p, 2), 0);
            Check.due("behind none", x.of(p, 3), 0);
        }
    }

    /** 'A post is BEHIND another one if a road leads from that to it.' */
    private static void behindIsTheWayOfTheRoad() {
        LampNet x = Nets.posts(12);
        x.road(11, 0, 1);
        Check.due("0 is behind 11", x.of(11, 2), 1);
        Check.due("11 is not behind 0", x.of(0, 2), 0);
        Check.due("what 0 is behind", x.of(0, 3), 2048);
        Check.due("what 11 is behind", x.of(11, 3), 0);
    }

    /** 'What is wrong is asked in the order in which it is told': -2 is told ahead of -1 and of 0 */
    private static void refusedGoesAheadOfNone() {
        LampNet x = Nets.posts(3);
        Check.due("no post, none comes on", x.when(1, 0, 3), -2);
        Check.due("no post, none is brought on", x.brought(1, 0, 3), -2);
        Check.due("no set, that would hold the post", x.when(1, 9, 0), -2);
        Check.due("no set, that would hold the post", x.brought(1, 9, 0), -2);
        Check.due("no rule of forts, and none such", x.forts(2, GREATEST), -2);
        Check.due("no rule of forts, k below 0", x.forts(2, -1), -2);
        Check.due("no set, none such", x.wall(8, -1), -2);
        Check.due("no set, none such", x.wall(-1, GREATEST), -2);
        Check.due("the set does not hold, no post", x.answer(0, 3), -2);
        Check.due("no set, one would stand there", x.answer(8, 3), -2);
        Check.due("no set, one stands there", x.answer(9, 0), -2);
        Check.due("no rule, all on", x.win(3, 7), -2);
        Check.due("no rule, all on", x.first(3, 7), -2);
        Check.due("no rule, no set, no post", x.when(3, 8, 3), -2);
        Check.due("no rule, no set, no post", x.brought(-1, -1, -1), -2);
        Check.due("no rule, no set", x.fort(2, 8), -2);
        Check.due("same and no posts, no weight", x.road(3, 3, 10), -2);
        Check.due("same, no weight", x.road(1, 1, -1), -2);
        Check.due("hands below 0, no posts", new LampNet().burnt(-1), -2);
    }

    /** 'of two sets that is LESSER which is less as a number': {1, 2} is 6, {0, 3} is 9 */
    private static void lesserAsANumber() {
        LampNet x = Nets.posts(4);
        for (int a = 0; a < 4; a += 3) {
            for (int b = 1; b < 3; b++) {
                x.road(a, b, 1);
                x.road(b, a, 1);
            }
        }
        for (int p = 0; p < 4; p++) {
            x.bar(p, 2);
        }
        Check.due("two seeds of two", x.many(0), 2);
        Check.due("the lesser", x.least(0), 6);
        Check.due("the lesser of one price", x.cheapest(0), 6);
        Check.due("the lesser fort", x.forts(1, 0), 6);
        Check.due("the other one", x.forts(1, 1), 9);
        Check.due("no more", x.forts(1, 2), -1);
    }

    /** 'It ENDS with the last TICK at which some post comes ON (0 without one ..' */
    private static void endWithTick0() {
        for (int rule = 0; rule < 3; rule++) {
            Check.due("no posts", new LampNet().ticks(rule, 0), 0);
            Check.due("no roads", Nets.posts(12).ticks(rule, 1), 0);
            Check.due("all on", Nets.complete(12).ticks(rule, 4095), 0);
            Check.due("no seed", Nets.complete(12).ticks(rule, 0), 0);
            Check.due("one road", Nets.chain(2).ticks(rule, 1), 1);
            Check.due("a road to the seed alone", Nets.chain(2).ticks(rule, 2), 0);
            Check.due("as far as can be", Nets.chain(12).ticks(rule, 1), 11);
        }
    }

    /** '.. by SEEN TICK 1 may bring none on ..': when all that are behind the seed are of the seed */
    private static void seenWithoutSight() {
        LampNet x = Nets.path(2);
        x.post();
        x.post();
        x.road(2, 0, 1);
        x.road(2, 3, 1);
        Check.due("none seen", x.ticks(2, 3), 0);
        Check.due("none seen", x.go(2, 3), 3);
        Check.due("none seen", x.when(2, 3, 2), -1);
        Check.due("2 sees 3 alone", x.go(2, 7), 15);
        Check.due("2 sees 3 alone", x.ticks(2, 7), 1);
    }

    /** 'A FORT .. is a set of one post or more' */
    private static void fortOfOnePostOrMore() {
        for (int rule = 0; rule < 2; rule++) {
            Check.due("no post, no posts", new LampNet().fort(rule, 0), 0);
            Check.due("no post of one", Nets.posts(1).fort(rule, 0), 0);
            Check.due("no post of twelve", Nets.posts(12).fort(rule, 0), 0);
            Check.due("one post", Nets.posts(1).fort(rule, 1), 1);
            Check.due("the first fort has a post", Nets.posts(1).forts(rule, 0), 1);
        }
    }

    /** 'A SEED SETS GOING if all posts are ON at the END': without posts it does, with one off it does not */
    private static void allOnAtTheEnd() {
        for (int rule = 0; rule < 3; rule++) {
            Check.due("no posts", new LampNet().many(rule), 1);
            LampNet x = Nets.chain(11);
            Check.due("all eleven from 0", x.least(rule), 1);
            x.post();
            Check.due("the twelfth needs a seed of its own", x.least(rule), 2049);
        }
    }

    /** 'then, if some post is off, one that is off is put ON by hand' */
    private static void noHandWhenNoneIsOff() {
        LampNet x = Nets.chain(2);
        Check.due("two ticks", x.burn(), 2);
        Check.due("one hand", x.hand(0), 0);
        Check.due("roads have all on", x.hand(1), -1);
        x.road(0, 1, 0);
        Check.due("two ticks", x.burn(), 2);
        Check.due("one is off", x.hand(1), 1);
    }

    /** 'one post that neither burns nor is WALLED is WALLED (if there is one)' */
    private static void noWallWhenThereIsNone() {
        LampNet x = Nets.complete(3);
        Check.due("all burn", x.save(7), 0);
        Check.due("none to wall", x.wall(7, 0), -1);
        Check.due("one to wall", x.wall(3, 0), 2);
        Check.due("none behind it", x.wall(3, 1), -1);
    }

    /** 'A STRIKE at a post on which none stands must be answered' */
    private static void noStrikeWhereOneStands() {
        Check.due("no posts", new LampNet().holds(0), 1);
        Check.due("one on each of twelve", Nets.posts(12).holds(4095), 1);
        Check.due("none on the last", Nets.posts(12).holds(2047), 0);
        Check.due("none on the first", Nets.posts(12).holds(4094), 0);
    }

    /** 'Who is to put when all are ON has lost.' */
    private static void lostWhenAllAreOn() {
        for (int rule = 0; rule < 3; rule++) {
            Check.due("no posts", new LampNet().win(rule, 0), 0);
            Check.due("all of one", Nets.posts(1).win(rule, 1), 0);
            Check.due("all of twelve", Nets.complete(12).win(rule, 4095), 0);
            Check.due("all but one", Nets.complete(12).win(rule, 4094), 1);
        }
    }
}
