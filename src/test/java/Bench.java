import java.util.function.Consumer;

/** One net, on an object that is made anew ahead of its 513th call: behind the 512th nothing is promised. */
final class Bench {
    private static final int MOST_CALLS = 512;

    private final Consumer<Bench> build;
    private LampNet net;
    private int calls;

    Bench(Consumer<Bench> build) {
        this.build = build;
        renew();
    }

    /** The object, for one call. */
    LampNet one() {
        if (calls == MOST_CALLS) {
            renew();
        }
        calls++;
        return net;
    }

    private void renew() {
        net = new LampNet();
        calls = 0;
        build.accept(this);
    }
}
