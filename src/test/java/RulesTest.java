/** Promises 7 to 10: go, ticks, when, brought. */
public final class RulesTest {
    public static void main(String[] args) {
        bars();
        barZero();
        heavyBar();
        forced();
        leastForcer();
        seen();
        edges();
        wrong();
        Check.end();
    }

    private static void expect(LampNet x, int rule, int seed, int go, int ticks) {
        Check.due("go " + rule + ", " + seed, x.go(rule, seed), go);
        Check.due("ticks " + rule + ", " + seed, x.ticks(rule, seed), ticks);
    }

    private static void expect(LampNet x, int rule, int seed, int p, int when, int brought) {
        Check.due("when " + rule + ", " + seed + ", " + p, x.when(rule, seed, p), when);
        Check.due("brought " + rule + ", " + seed + ", " + p, x.brought(rule, seed, p), brought);
    }

    private static void bars() {
        LampNet x = Nets.posts(4);
        x.road(0, 2, 3);
        x.road(1, 2, 4);
        x.bar(2, 7);
        x.road(0, 3, 1);
        x.road(2, 3, 1);
        expect(x, 0, 1, 9, 1);
        expect(x, 0, 3, 15, 1);
        expect(x, 0, 3, 2, 1, 3);
        // Post 2 comes on at the same tick, so it has not brought post 3 on.
        expect(x, 0, 3, 3, 1, 1);
        expect(x, 0, 3, 0, 0, 0);
        expect(x, 0, 1, 2, -1, -1);
        x.bar(2, 8);
        expect(x, 0, 3, 11, 1);
        x.bar(2, 7);
        x.bar(3, 2);
        expect(x, 0, 3, 15, 2);
        expect(x, 0, 3, 3, 2, 5);
        // A seed's post is on whatever its bar is.
        expect(x, 0, 8, 8, 0);
    }

    private static void barZero() {
        LampNet x = Nets.chain(3);
        x.bar(1, 0);
        expect(x, 0, 0, 6, 2);
        expect(x, 0, 0, 1, 1, 0);
        expect(x, 0, 0, 2, 2, 2);
        expect(x, 0, 0, 0, -1, -1);
        expect(x, 0, 1, 1, 1, 1);
    }

    private static void heavyBar() {
        LampNet x = Nets.posts(12);
        for (int p = 0; p < 11; p++) {
            x.road(p, 11, 9);
        }
        x.bar(11, 99);
        expect(x, 0, 2047, 4095, 1);
        expect(x, 0, 2047, 11, 1, 2047);
        expect(x, 0, 2046, 2046, 0);
        x.road(3, 11, 8);
        expect(x, 0, 2047, 2047, 0);
        x.bar(11, 98);
        expect(x, 0, 2047, 4095, 1);
    }

    private static void forced() {
        LampNet x = Nets.star(4);
        expect(x, 1, 1, 1, 0);
        expect(x, 1, 7, 15, 1);
        expect(x, 1, 7, 3, 1, 1);
        expect(x, 1, 6, 15, 2);
        expect(x, 1, 6, 0, 1, 2);
        expect(x, 1, 6, 3, 2, 1);
        // By FORCED bars and weights have no say.
        x.bar(3, 99);
        x.bar(0, 0);
        expect(x, 1, 7, 15, 1);
        expect(x, 1, 0, 0, 0);
        LampNet chain = Nets.chain(12);
        expect(chain, 1, 1, 4095, 11);
        expect(chain, 1, 1, 11, 11, 1 << 10);
        expect(chain, 1, 2048, 2048, 0);
    }

    private static void leastForcer() {
        LampNet x = Nets.posts(4);
        x.road(0, 2, 1);
        x.road(0, 3, 1);
        x.road(1, 2, 1);
        expect(x, 1, 3, 15, 2);
        // Post 0 has two off behind it at first.
        expect(x, 1, 3, 2, 1, 2);
        expect(x, 1, 3, 3, 2, 1);
        x.road(0, 3, 0);
        expect(x, 1, 3, 2, 1, 1);
        // Two posts are forced at once by two others.
        LampNet pair = Nets.posts(4);
        pair.road(0, 2, 1);
        pair.road(1, 3, 1);
        expect(pair, 1, 3, 15, 1);
        expect(pair, 1, 3, 3, 1, 2);
    }

    private static void seen() {
        LampNet x = Nets.star(5);
        expect(x, 2, 1, 31, 1);
        expect(x, 2, 1, 4, 1, 1);
        expect(x, 2, 2, 3, 1);
        expect(x, 2, 14, 31, 2);
        expect(x, 2, 14, 0, 1, 2);
        expect(x, 2, 14, 4, 2, 1);
        expect(x, 2, 2, 4, -1, -1);
        LampNet path = Nets.path(5);
        expect(path, 2, 4, 31, 2);
        expect(path, 2, 4, 0, 2, 2);
        expect(path, 2, 4, 4, 2, 8);
        // Seen by two: the least of the seed has brought it on, not the least of all.
        LampNet two = Nets.posts(4);
        two.road(0, 3, 1);
        two.road(1, 3, 1);
        two.road(2, 3, 1);
        expect(two, 2, 6, 3, 1, 2);
        // Only the seed's own sight counts at tick 1, and only forcing behind it.
        LampNet fork = Nets.chain(2);
        fork.post();
        fork.post();
        fork.road(1, 2, 1);
        fork.road(1, 3, 1);
        expect(fork, 2, 1, 3, 1);
        expect(fork, 2, 9, 15, 2);
        expect(fork, 2, 9, 2, 2, 2);
        LampNet closed = Nets.path(2);
        closed.post();
        expect(closed, 2, 3, 3, 0);
    }

    private static void edges() {
        LampNet none = new LampNet();
        LampNet twelve = Nets.ring(12);
        for (int rule = 0; rule < 3; rule++) {
            expect(none, rule, 0, 0, 0);
            Check.due("when without posts", none.when(rule, 0, 0), -2);
            Check.due("brought without posts", none.brought(rule, 0, 0), -2);
            expect(twelve, rule, 0, 0, 0);
            expect(twelve, rule, 4095, 4095, 0);
            expect(twelve, rule, 0, 11, -1, -1);
            expect(twelve, rule, 4095, 11, 0, 0);
        }
        expect(twelve, 0, 1, 4095, 6);
        expect(twelve, 1, 1, 1, 0);
        expect(twelve, 1, 3, 4095, 5);
        expect(twelve, 2, 1, 4095, 6);
        // At tick 6 both neighbours force post 6.
        expect(twelve, 2, 1, 6, 6, 32);
        expect(twelve, 0, 1, 6, 6, 32 + 128);
    }

    private static void wrong() {
        LampNet x = Nets.path(3);
        int[] noRules = {-1, 3, Integer.MIN_VALUE, Integer.MAX_VALUE};
        int[] noSets = {-1, 8, 4096, Integer.MIN_VALUE, Integer.MAX_VALUE};
        int[] noPosts = {-1, 3, 12, 32, Integer.MIN_VALUE, Integer.MAX_VALUE};
        for (int rule : noRules) {
            Check.due("go", x.go(rule, 1), -2);
            Check.due("ticks", x.ticks(rule, 1), -2);
            Check.due("when", x.when(rule, 1, 0), -2);
            Check.due("brought", x.brought(rule, 1, 0), -2);
        }
        for (int set : noSets) {
            Check.due("go", x.go(1, set), -2);
            Check.due("ticks", x.ticks(1, set), -2);
            Check.due("when", x.when(1, set, 0), -2);
            Check.due("brought", x.brought(1, set, 0), -2);
        }
        for (int p : noPosts) {
            Check.due("when", x.when(1, 1, p), -2);
            Check.due("brought", x.brought(1, 1, p), -2);
        }
    }
}
