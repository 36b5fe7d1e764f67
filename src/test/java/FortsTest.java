/** Promises 11 to 13: fort, forts, apart. */
public final class FortsTest {
    public static void main(String[] args) {
        pairsOfComplete();
        sixesOfComplete();
        lonePosts();
        oneWay();
        weights();
        edges();
        wrong();
        Check.end();
    }

    /** By FORCED one that is on sees all that are off, so two or more stay off. */
    private static void pairsOfComplete() {
        LampNet x = Nets.complete(4);
        int[] pairs = {3, 5, 6, 9, 10, 12};
        for (int k = 0; k < pairs.length; k++) {
            Check.due("forts " + k, x.forts(1, k), pairs[k]);
            Check.due("fort", x.fort(1, pairs[k]), 1);
        }
        Check.due("forts behind the last", x.forts(1, 6), -1);
        Check.due("fort of three", x.fort(1, 7), 1);
        Check.due("fort of all", x.fort(1, 15), 1);
        Check.due("fort of one", x.fort(1, 1), 0);
        Check.due("fort of none", x.fort(1, 0), 0);
        Check.due("apart", x.apart(1), 2);
        LampNet twelve = Nets.complete(12);
        Check.due("last pair", twelve.forts(1, 65), 3072);
        Check.due("behind it", twelve.forts(1, 66), -1);
        Check.due("apart of 12", twelve.apart(1), 6);
    }

    private static void sixesOfComplete() {
        LampNet x = Nets.complete(12);
        for (int p = 0; p < 12; p++) {
            x.bar(p, 7);
        }
        Check.due("fort of six", x.fort(0, 63), 1);
        Check.due("fort of five", x.fort(0, 31), 0);
        Check.due("first six", x.forts(0, 0), 63);
        Check.due("second six", x.forts(0, 1), 95);
        Check.due("last six", x.forts(0, 923), 4032);
        Check.due("behind it", x.forts(0, 924), -1);
        Check.due("apart", x.apart(0), 2);
        Check.due("apart by FORCED", x.apart(1), 6);
    }

    private static void lonePosts() {
        LampNet x = Nets.posts(12);
        for (int rule = 0; rule < 2; rule++) {
            for (int k = 0; k < 12; k++) {
                Check.due("forts " + k, x.forts(rule, k), 1 << k);
            }
            Check.due("behind them", x.forts(rule, 12), -1);
            Check.due("apart", x.apart(rule), 12);
            Check.due("fort of all", x.fort(rule, 4095), 1);
        }
        x.bar(5, 0);
        Check.due("bar 0 is in no fort", x.fort(0, 32), 0);
        Check.due("nor with others", x.fort(0, 4095), 0);
        Check.due("without it", x.fort(0, 4095 - 32), 1);
        Check.due("apart without it", x.apart(0), 11);
        Check.due("FORCED asks no bar", x.apart(1), 12);
    }

    /** Fewer posts come first, though a set of more posts may be the lesser one. */
    private static void oneWay() {
        LampNet x = Nets.posts(4);
        x.road(0, 1, 1);
        x.road(1, 0, 1);
        x.road(2, 0, 1);
        x.road(2, 1, 1);
        Check.due("one of two", x.fort(1, 1), 0);
        Check.due("two that 2 sees", x.fort(1, 3), 1);
        Check.due("first", x.forts(1, 0), 4);
        Check.due("second", x.forts(1, 1), 8);
        Check.due("third", x.forts(1, 2), 3);
        Check.due("fourth", x.forts(1, 3), -1);
        Check.due("apart", x.apart(1), 3);
        Check.due("by BARS", x.forts(0, 0), 4);
        Check.due("by BARS", x.forts(0, 1), 8);
        Check.due("by BARS", x.forts(0, 2), -1);
        Check.due("with a part that is a fort", x.fort(0, 15), 1);
    }

    private static void weights() {
        LampNet x = Nets.posts(3);
        x.road(0, 2, 2);
        x.road(1, 2, 3);
        x.bar(2, 5);
        x.bar(0, 0);
        x.bar(1, 0);
        Check.due("bar just met", x.fort(0, 4), 0);
        Check.due("no forts", x.forts(0, 0), -1);
        Check.due("none apart", x.apart(0), 0);
        x.bar(2, 6);
        Check.due("bar just missed", x.fort(0, 4), 1);
        Check.due("first", x.forts(0, 0), 4);
        Check.due("apart", x.apart(0), 1);
    }

    private static void edges() {
        LampNet none = new LampNet();
        for (int rule = 0; rule < 2; rule++) {
            Check.due("fort of none", none.fort(rule, 0), 0);
            Check.due("fort of no set", none.fort(rule, 1), -2);
            Check.due("forts of none", none.forts(rule, 0), -1);
            Check.due("apart of none", none.apart(rule), 0);
        }
        // The forts that are apart need not be those that come first.
        LampNet path = Nets.path(3);
        path.bar(0, 2);
        path.bar(1, 2);
        path.bar(2, 2);
        Check.due("first", path.forts(0, 0), 1);
        Check.due("second", path.forts(0, 1), 4);
        Check.due("third", path.forts(0, 2), -1);
        Check.due("apart", path.apart(0), 2);
        LampNet pair = Nets.path(2);
        Check.due("all posts are the one fort", pair.forts(1, 0), 3);
        Check.due("and the last", pair.forts(1, 1), -1);
        pair.road(0, 1, 0);
        Check.due("post 1 alone", pair.forts(1, 0), 2);
        Check.due("with post 0 it is a fort, not a least one", pair.fort(1, 3), 1);
        Check.due("so there are no more", pair.forts(1, 1), -1);
    }

    private static void wrong() {
        LampNet x = Nets.path(3);
        int[] noRules = {-1, 2, 3, Integer.MIN_VALUE, Integer.MAX_VALUE};
        int[] noSets = {-1, 8, 4096, Integer.MIN_VALUE, Integer.MAX_VALUE};
        for (int rule : noRules) {
            Check.due("fort", x.fort(rule, 1), -2);
            Check.due("forts", x.forts(rule, 0), -2);
            Check.due("apart", x.apart(rule), -2);
        }
        for (int set : noSets) {
            Check.due("fort", x.fort(0, set), -2);
            Check.due("fort", x.fort(1, set), -2);
        }
        Check.due("forts", x.forts(0, -1), -2);
        Check.due("forts", x.forts(1, Integer.MIN_VALUE), -2);
        Check.due("forts", x.forts(1, Integer.MAX_VALUE), -1);
    }
}
