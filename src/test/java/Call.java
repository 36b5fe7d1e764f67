import java.util.ArrayList;
import java.util.List;

/** The calls of the face that can be refused, with the edges of what each argument may be. */
enum Call {
    ROAD(Kind.POST, Kind.POST, Kind.WEIGHT) {
        long on(LampNet x, int[] a) {
            return x.road(a[0], a[1], a[2]);
        }
    },
    BAR(Kind.POST, Kind.BAR) {
        long on(LampNet x, int[] a) {
            return x.bar(a[0], a[1]);
        }
    },
    PRICE(Kind.POST, Kind.PRICE) {
        long on(LampNet x, int[] a) {
            return x.price(a[0], a[1]);
        }
    },
    OF(Kind.POST, Kind.WHAT) {
        long on(LampNet x, int[] a) {
            return x.of(a[0], a[1]);
        }
    },
    GO(Kind.RULE, Kind.SET) {
        long on(LampNet x, int[] a) {
            return x.go(a[0], a[1]);
        }
    },
    TICKS(Kind.RULE, Kind.SET) {
        long on(LampNet x, int[] a) {
            return x.ticks(a[0], a[1]);
        }
    },
    WHEN(Kind.RULE, Kind.SET, Kind.POST) {
        long on(LampNet x, int[] a) {
            return x.when(a[0], a[1], a[2]);
        }
    },
    BROUGHT(Kind.RULE, Kind.SET, Kind.POST) {
        long on(LampNet x, int[] a) {
            return x.brought(a[0], a[1], a[2]);
        }
    },
    FORT(Kind.RULE_WITH_FORTS, Kind.SET) {
        long on(LampNet x, int[] a) {
            return x.fort(a[0], a[1]);
        }
    },
    FORTS(Kind.RULE_WITH_FORTS, Kind.FROM_0_ON) {
        long on(LampNet x, int[] a) {
            return x.forts(a[0], a[1]);
        }
    },
    APART(Kind.RULE_WITH_FORTS) {
        long on(LampNet x, int[] a) {
            return x.apart(a[0]);
        }
    },
    LEAST(Kind.RULE) {
        long on(LampNet x, int[] a) {
            return x.least(a[0]);
        }
    },
    MANY(Kind.RULE) {
        long on(LampNet x, int[] a) {
            return x.many(a[0]);
        }
    },
    CHEAPEST(Kind.RULE) {
        long on(LampNet x, int[] a) {
            return x.cheapest(a[0]);
        }
    },
    PARED(Kind.RULE) {
        long on(LampNet x, int[] a) {
            return x.pared(a[0]);
        }
    },
    HAND(Kind.ANY) {
        long on(LampNet x, int[] a) {
            return x.hand(a[0]);
        }
    },
    SAVE(Kind.SET) {
        long on(LampNet x, int[] a) {
            return x.save(a[0]);
        }
    },
    WALL(Kind.SET, Kind.ANY) {
        long on(LampNet x, int[] a) {
            return x.wall(a[0], a[1]);
        }
    },
    HOLDS(Kind.SET) {
        long on(LampNet x, int[] a) {
            return x.holds(a[0]);
        }
    },
    ANSWER(Kind.SET, Kind.POST) {
        long on(LampNet x, int[] a) {
            return x.answer(a[0], a[1]);
        }
    },
    WIN(Kind.RULE, Kind.SET) {
        long on(LampNet x, int[] a) {
            return x.win(a[0], a[1]);
        }
    },
    FIRST(Kind.RULE, Kind.SET) {
        long on(LampNet x, int[] a) {
            return x.first(a[0], a[1]);
        }
    };

    private static final int MOST = Integer.MAX_VALUE;
    private static final int LEAST_INT = Integer.MIN_VALUE;

    /** What an argument may be: from a least to a greatest number. */
    enum Kind {
        POST, SET, RULE, RULE_WITH_FORTS, WEIGHT, BAR, PRICE, WHAT, FROM_0_ON, ANY;

        int least() {
            return this == ANY ? LEAST_INT : 0;
        }

        int greatest(int posts) {
            switch (this) {
                case POST:
                    return posts - 1;
                case SET:
                    return (1 << posts) - 1;
                case RULE:
                    return 2;
                case RULE_WITH_FORTS:
                    return 1;
                case WEIGHT:
                    return 9;
                case BAR:
                    return 99;
                case PRICE:
                    return 1000;
                case WHAT:
                    return 3;
                default:
                    return MOST;
            }
        }

        boolean allows(int value, int posts) {
            return value >= least() && value <= greatest(posts);
        }

        /** Both edges, each with what lies next to it, the ends of int, and what shifts and masks would take for others. */
        int[] edges(int posts) {
            int last = greatest(posts);
            return new int[] {LEAST_INT, LEAST_INT + 1, -1, 0, 1, last, last + 1, 32, 4096, MOST - 1, MOST};
        }
    }

    private final Kind[] kinds;

    Call(Kind... kinds) {
        this.kinds = kinds;
    }

    abstract long on(LampNet x, int[] arguments);

    /** Each choice of an edge for each argument. */
    List<int[]> grid(int posts) {
        List<int[]> rows = new ArrayList<>();
        rows.add(new int[0]);
        for (Kind kind : kinds) {
            List<int[]> longer = new ArrayList<>();
            for (int[] row : rows) {
                for (int edge : kind.edges(posts)) {
                    int[] next = java.util.Arrays.copyOf(row, row.length + 1);
                    next[row.length] = edge;
                    longer.add(next);
                }
            }
            rows = longer;
        }
        return rows;
    }

    boolean isRefused(int posts, int[] arguments) {
        for (int i = 0; i < kinds.length; i++) {
            if (!kinds[i].allows(arguments[i], posts)) {
                return true;
            }
        }
        boolean isFire = this == SAVE || this == WALL;
        return this == ROAD && arguments[0] == arguments[1] || isFire && posts > 10;
    }

    String told(int posts, int[] arguments) {
        return "with " + posts + " posts " + name() + java.util.Arrays.toString(arguments);
    }
}
