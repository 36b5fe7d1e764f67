/** Nets that several tests start from. */
final class Nets {
    private Nets() {
    }

    static LampNet posts(int n) {
        LampNet x = new LampNet();
        for (int p = 0; p < n; p++) {
            x.post();
        }
        return x;
    }

    /** Roads 0 to 1, 1 to 2 and so on, one way. */
    static LampNet chain(int n) {
        LampNet x = posts(n);
        for (int p = 0; p + 1 < n; p++) {
            x.road(p, p + 1, 1);
        }
        return x;
    }

    /** The roads of chain(), both ways. */
    static LampNet path(int n) {
        LampNet x = chain(n);
        for (int p = 0; p + 1 < n; p++) {
            x.road(p + 1, p, 1);
        }
        return x;
    }

    static LampNet ring(int n) {
        LampNet x = path(n);
        x.road(n - 1, 0, 1);
        x.road(0, n - 1, 1);
        return x;
    }

    /** Post 0 in the middle, roads both ways to all others. */
    static LampNet star(int n) {
        LampNet x = posts(n);
        for (int p = 1; p < n; p++) {
            x.road(0, p, 1);
            x.road(p, 0, 1);
        }
        return x;
    }

    static LampNet complete(int n) {
        LampNet x = posts(n);
        for (int a = 0; a < n; a++) {
            for (int b = 0; b < n; b++) {
                x.road(a, b, 1);
            }
        }
        return x;
    }
}
