/** Promises 26 and 27: win, first. */
public final class GameTest {
    public static void main(String[] args) {
        lonePosts();
        withoutATickAhead();
        rulesDiffer();
        paths();
        edges();
        wrong();
        Check.end();
    }

    private static void expect(LampNet x, int rule, int set, int first) {
        Check.due("first " + rule + ", " + set, x.first(rule, set), first);
        Check.due("win " + rule + ", " + set, x.win(rule, set), first < 0 ? 0 : 1);
    }

    /** Each put brings one on: who has an odd number ahead wins, by any post. */
    private static void lonePosts() {
        for (int rule = 0; rule < 3; rule++) {
            expect(Nets.posts(1), rule, 0, 0);
            expect(Nets.posts(2), rule, 0, -1);
            expect(Nets.posts(3), rule, 0, 0);
            expect(Nets.posts(3), rule, 7, -1);
            expect(Nets.posts(12), rule, 0, -1);
            expect(Nets.posts(12), rule, 1, 1);
            expect(Nets.posts(12), rule, 2, 0);
            expect(Nets.posts(12), rule, 2047, 11);
        }
    }

    private static void withoutATickAhead() {
        LampNet x = Nets.chain(2);
        // The rule would have all on from {0}, but one is to be put first.
        for (int rule = 0; rule < 3; rule++) {
            expect(x, rule, 1, 1);
            expect(x, rule, 0, 0);
            expect(x, rule, 2, 0);
        }
        LampNet zero = Nets.posts(2);
        zero.bar(0, 0);
        zero.bar(1, 0);
        expect(zero, 0, 0, 0);
        zero.bar(0, 1);
        // {0} put brings 1 on by its bar; {1} put leaves 0 to the other one.
        expect(zero, 0, 0, 0);
        zero.bar(1, 1);
        expect(zero, 0, 0, -1);
    }

    private static void rulesDiffer() {
        LampNet x = Nets.posts(4);
        x.road(0, 1, 1);
        x.road(0, 2, 1);
        x.road(0, 3, 1);
        x.bar(3, 2);
        // FORCED: 1, then 2 with 3 forced. SEEN: all that is on is the seed, so 0 is looked from again.
        expect(x, 1, 1, -1);
        expect(x, 2, 1, 1);
        // BARS: 1 along with 2, and then 3; or 3 along with both.
        expect(x, 0, 1, 3);
    }

    private static void paths() {
        expect(Nets.path(5), 1, 0, 0);
        expect(Nets.path(5), 1, 4, 0);
        expect(Nets.ring(11), 1, 0, -1);
        expect(Nets.ring(12), 2, 0, 0);
        expect(Nets.star(5), 2, 0, 0);
        // With the middle on the other one's leaf leaves two, of which either forces the other.
        expect(Nets.star(4), 1, 0, 0);
        expect(Nets.star(4), 1, 1, -1);
        expect(Nets.star(4), 1, 3, 2);
    }

    private static void edges() {
        LampNet x = new LampNet();
        for (int rule = 0; rule < 3; rule++) {
            expect(x, rule, 0, -1);
        }
        x.post();
        for (int rule = 0; rule < 3; rule++) {
            expect(x, rule, 0, 0);
            expect(x, rule, 1, -1);
        }
        x.post();
        expect(x, 0, 0, -1);
        x.road(1, 0, 1);
        expect(x, 0, 0, 1);
        x.bar(0, 2);
        expect(x, 0, 0, -1);
        expect(x, 1, 0, 1);
        expect(Nets.complete(12), 0, 0, 0);
        expect(Nets.complete(12), 0, 4095, -1);
    }

    private static void wrong() {
        LampNet x = Nets.path(3);
        for (int rule : new int[] {-1, 3, Integer.MIN_VALUE, Integer.MAX_VALUE}) {
            Check.due("win", x.win(rule, 0), -2);
            Check.due("first", x.first(rule, 0), -2);
        }
        for (int set : new int[] {-1, 8, 4096, Integer.MIN_VALUE, Integer.MAX_VALUE}) {
            Check.due("win", x.win(1, set), -2);
            Check.due("first", x.first(1, set), -2);
        }
        Check.due("win without posts", new LampNet().win(0, 1), -2);
        Check.due("first without posts", new LampNet().first(0, 1), -2);
    }
}
