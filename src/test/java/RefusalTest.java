/** A call that answers -2 changes nothing, and neither does one that only asks. */
public final class RefusalTest {
    private static final int[] INTS = {
        Integer.MIN_VALUE, -3, -2, -1, 0, 1, 2, 3, 4, 5, 9, 10, 11, 12, 13, 31, 32, 33, 63, 64, 99, 100,
        1000, 1001, 1023, 1024, 2047, 2048, 4095, 4096, Integer.MAX_VALUE};

    public static void main(String[] args) {
        for (int n : new int[] {0, 1, 3, 5, 10, 11, 12}) {
            LampNet x = net(n);
            long before = fingerprint(x);
            refusedChanges(x, n);
            Check.due("the net of " + n + " behind refused changes", fingerprint(x), before);
            questions(x);
            Check.due("the net of " + n + " behind questions", fingerprint(x), before);
        }
        Check.end();
    }

    private static LampNet net(int n) {
        LampNet x = Nets.path(n);
        for (int p = 0; p < n; p++) {
            x.bar(p, p % 4);
            x.price(p, p * 7 % 5);
            x.road(p, (p + 3) % Math.max(n, 1), 1 + p % 9);
        }
        return x;
    }

    private static void refusedChanges(LampNet x, int n) {
        if (n == 12) {
            Check.due("post", x.post(), -2);
        }
        for (int a : INTS) {
            for (int b : INTS) {
                boolean isPost = a >= 0 && a < n;
                if (!isPost || b < 0 || b > 99) {
                    Check.due("bar " + a + ", " + b, x.bar(a, b), -2);
                }
                if (!isPost || b < 0 || b > 1000) {
                    Check.due("price " + a + ", " + b, x.price(a, b), -2);
                }
                for (int weight : INTS) {
                    if (!isPost || b < 0 || b >= n || a == b || weight < 0 || weight > 9) {
                        Check.due("road " + a + ", " + b + ", " + weight, x.road(a, b, weight), -2);
                    }
                }
            }
        }
    }

    private static void questions(LampNet x) {
        for (int a : INTS) {
            x.apart(a);
            x.least(a);
            x.many(a);
            x.cheapest(a);
            x.pared(a);
            x.hand(a);
            x.burnt(a);
            x.burnt((long) a * a * 3);
            x.save(a);
            x.holds(a);
            for (int b : INTS) {
                x.of(a, b);
                x.go(a, b);
                x.ticks(a, b);
                x.fort(a, b);
                x.forts(a, b);
                x.wall(a, b);
                x.answer(a, b);
                x.win(a, b);
                x.first(a, b);
                for (int c : INTS) {
                    x.when(a, b, c);
                    x.brought(a, b, c);
                }
            }
        }
    }

    private static long fingerprint(LampNet x) {
        long mark = x.count();
        for (int p = 0; p < 12; p++) {
            for (int what = 0; what < 4; what++) {
                mark = mark * 31 + x.of(p, what);
            }
            mark = mark * 31 + x.hand(p);
        }
        for (int rule = 0; rule < 3; rule++) {
            mark = mark * 31 + x.cheapest(rule);
            mark = mark * 31 + x.many(rule);
            mark = mark * 31 + x.apart(rule);
            mark = mark * 31 + x.first(rule, 0);
            // Weights show in what the bars need.
            for (int p = 0; p < 12; p++) {
                mark = mark * 31 + x.go(rule, 1 << p);
            }
        }
        return mark * 31 + x.guards();
    }
}
