/**
 * For each call that can be refused each choice of edges, so of two or three wrong things at once, too:
 * -2 if one of them is wrong, and never -2 if none is.
 */
public final class EdgeGridTest {
    public static void main(String[] args) {
        for (int posts : new int[] {0, 1, 2, 3, 9, 10, 11, 12}) {
            Bench bench = new Bench(b -> build(b, posts));
            for (Call call : Call.values()) {
                for (int[] arguments : call.grid(posts)) {
                    boolean isRefused = call.on(bench.one(), arguments) == -2;
                    Check.due(call.told(posts, arguments), isRefused ? -2 : 0, call.isRefused(posts, arguments) ? -2 : 0);
                }
            }
        }
        Check.end();
    }

    private static void build(Bench bench, int posts) {
        for (int p = 0; p < posts; p++) {
            bench.one().post();
        }
        for (int p = 0; p + 1 < posts; p++) {
            bench.one().road(p, p + 1, 1);
            bench.one().road(p + 1, p, 2);
        }
    }
}
