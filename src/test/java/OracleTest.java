import java.util.List;

/** Many nets, made by a fixed row of numbers: every call against the plain oracle. */
public final class OracleTest {
    private static long state = 20261116L;

    private static int draw(int bound) {
        state = state * 6364136223846793005L + 1442695040888963407L;
        return (int) ((state >>> 33) % bound);
    }

    public static void main(String[] args) {
        for (int i = 0; i < 240; i++) {
            int n = i % 8;
            Oracle oracle = randomNet(n, 1 + draw(9));
            Bench x = new Bench(oracle::build);
            String net = "net " + i + ": ";
            compareRules(net, x, oracle, n < 6 ? 1 : 5);
            compareSeeds(net, x, oracle);
            compareForts(net, x, oracle);
            compareGuards(net, x, oracle, 1);
            compareGame(net, x, oracle, 1);
            compareBurning(net, x, oracle);
            compareFire(net, x, oracle, n < 6 ? 1 : 13);
        }
        for (int i = 0; i < 12; i++) {
            Oracle oracle = randomNet(12, 1 + i % 6);
            Bench x = new Bench(oracle::build);
            String net = "large net " + i + ": ";
            compareRules(net, x, oracle, 97);
            compareSeeds(net, x, oracle);
            compareForts(net, x, oracle);
            compareGuards(net, x, oracle, 5);
            compareGame(net, x, oracle, 31);
        }
        for (int i = 0; i < 12; i++) {
            Oracle oracle = randomNet(10, 1 + i % 6);
            Bench x = new Bench(oracle::build);
            compareFire("fire net " + i + ": ", x, oracle, 61);
        }
        for (int i = 0; i < 25; i++) {
            Oracle oracle = randomNet(8 + i % 5, 1 + i % 4);
            compareBurning("burning net " + i + ": ", new Bench(oracle::build), oracle);
        }
        Check.end();
    }

    /** Some roads are laid and taken up again, so that what a call kept of the net as it was would show. */
    private static Oracle randomNet(int n, int density) {
        LampNet x = new LampNet();
        Oracle oracle = new Oracle(n);
        for (int p = 0; p < n; p++) {
            Check.due("post", x.post(), p);
            askAll(x);
        }
        boolean isTwoWay = draw(2) == 0;
        for (int round = 0; round < 2; round++) {
            for (int a = 0; a < n; a++) {
                for (int b = 0; b < n; b++) {
                    if (a != b && (!isTwoWay || a < b)) {
                        int weight = draw(10) < density ? 1 + draw(draw(2) == 0 ? 2 : 9) : 0;
                        setRoad(x, oracle, a, b, weight);
                        if (isTwoWay) {
                            setRoad(x, oracle, b, a, weight);
                        }
                    }
                }
            }
            askAll(x);
        }
        for (int p = 0; p < n; p++) {
            int bar = draw(draw(3) == 0 ? 20 : 5);
            Check.due("bar", x.bar(p, bar), oracle.bar[p]);
            oracle.bar[p] = bar;
            int price = draw(draw(2) == 0 ? 4 : 1001);
            Check.due("price", x.price(p, price), oracle.price[p]);
            oracle.price[p] = price;
        }
        compareChanged(x, oracle);
        return oracle;
    }

    /** What hangs on kept tables, on the object that has been changed; of its 512 calls there are not many left. */
    private static void compareChanged(LampNet x, Oracle oracle) {
        for (int rule = 0; rule < 3; rule++) {
            Check.due("changed net: least", x.least(rule), oracle.least(rule));
            Check.due("changed net: many", x.many(rule), oracle.many(rule));
            Check.due("changed net: cheapest", x.cheapest(rule), oracle.cheapest(rule));
            Check.due("changed net: first", x.first(rule, 0), oracle.first(rule, 0));
            Check.due("changed net: apart", x.apart(rule), rule == 2 ? -2 : oracle.apart(rule));
        }
        Check.due("changed net: guards", x.guards(), oracle.guards(oracle.holding()));
        if (oracle.n <= 7) {
            Check.due("changed net: burn", x.burn(), oracle.burn());
            Check.due("changed net: save", x.save(oracle.all() / 3), oracle.walls(oracle.all() / 3).get(0));
        }
    }

    private static void setRoad(LampNet x, Oracle oracle, int a, int b, int weight) {
        Check.due("road", x.road(a, b, weight), oracle.weight[a][b]);
        oracle.weight[a][b] = weight;
    }

    private static void askAll(LampNet x) {
        for (int rule = 0; rule < 3; rule++) {
            x.least(rule);
            x.win(rule, 0);
            x.apart(rule);
        }
        x.burn();
        x.guards();
    }

    private static void compareRules(String net, Bench x, Oracle oracle, int stride) {
        for (int p = 0; p < oracle.n; p++) {
            Check.due(net + "of 0", x.one().of(p, 0), oracle.bar[p]);
            Check.due(net + "of 1", x.one().of(p, 1), oracle.price[p]);
            Check.due(net + "of 2", x.one().of(p, 2), oracle.behind(p));
            Check.due(net + "of 3", x.one().of(p, 3), oracle.ahead(p));
        }
        for (int rule = 0; rule < 3; rule++) {
            for (int seed = 0; seed <= oracle.all(); seed += stride) {
                String of = net + rule + ", " + seed;
                Check.due(of + " go", x.one().go(rule, seed), oracle.go(rule, seed));
                Check.due(of + " ticks", x.one().ticks(rule, seed), oracle.ticks(rule, seed));
                for (int p = 0; p < oracle.n; p++) {
                    Check.due(of + " when " + p, x.one().when(rule, seed, p), oracle.when(rule, seed, p));
                    Check.due(of + " brought " + p, x.one().brought(rule, seed, p), oracle.brought(rule, seed, p));
                }
            }
        }
    }

    private static void compareSeeds(String net, Bench x, Oracle oracle) {
        for (int rule = 0; rule < 3; rule++) {
            Check.due(net + "least " + rule, x.one().least(rule), oracle.least(rule));
            Check.due(net + "many " + rule, x.one().many(rule), oracle.many(rule));
            Check.due(net + "cheapest " + rule, x.one().cheapest(rule), oracle.cheapest(rule));
            Check.due(net + "pared " + rule, x.one().pared(rule), oracle.pared(rule));
        }
    }

    private static void compareForts(String net, Bench x, Oracle oracle) {
        for (int rule = 0; rule < 2; rule++) {
            for (int set = 0; set <= oracle.all(); set++) {
                Check.due(net + "fort " + rule + ", " + set, x.one().fort(rule, set), oracle.isFort(rule, set) ? 1 : 0);
            }
            List<Integer> least = oracle.leastForts(rule);
            for (int k = 0; k < least.size(); k++) {
                Check.due(net + "forts " + rule + ", " + k, x.one().forts(rule, k), least.get(k));
            }
            Check.due(net + "forts behind the last", x.one().forts(rule, least.size()), -1);
            Check.due(net + "apart " + rule, x.one().apart(rule), oracle.apart(rule));
        }
    }

    private static void compareGuards(String net, Bench x, Oracle oracle, int stride) {
        boolean[] holding = oracle.holding();
        for (int set = 0; set <= oracle.all(); set += stride) {
            Check.due(net + "holds " + set, x.one().holds(set), holding[set] ? 1 : 0);
            for (int p = 0; p < oracle.n; p++) {
                int due = holding[set] ? oracle.answer(holding, set, p) : -1;
                Check.due(net + "answer " + set + ", " + p, x.one().answer(set, p), due);
            }
        }
        Check.due(net + "guards", x.one().guards(), oracle.guards(holding));
    }

    private static void compareGame(String net, Bench x, Oracle oracle, int stride) {
        for (int rule = 0; rule < 3; rule++) {
            for (int set = 0; set <= oracle.all(); set += stride) {
                int first = oracle.first(rule, set);
                Check.due(net + "first " + rule + ", " + set, x.one().first(rule, set), first);
                Check.due(net + "win " + rule + ", " + set, x.one().win(rule, set), first < 0 ? 0 : 1);
            }
        }
    }

    private static void compareBurning(String net, Bench x, Oracle oracle) {
        Check.due(net + "burn", x.one().burn(), oracle.burn());
        List<Integer> hands = oracle.hands();
        long told = 0;
        for (int i = hands.size() - 1; i >= 0; i--) {
            Check.due(net + "hand " + i, x.one().hand(i), hands.get(i));
            told = told * 13 + hands.get(i) + 1;
        }
        Check.due(net + "hand behind the last", x.one().hand(hands.size()), -1);
        Check.due(net + "burnt of the hands", x.one().burnt(told), oracle.burn());
        for (int i = 0; i < 60; i++) {
            long drawn = draw(13 * 13);
            for (int digit = draw(8); digit > 0; digit--) {
                drawn = drawn * 13 + draw(oracle.n + 2);
            }
            Check.due(net + "burnt " + drawn, x.one().burnt(drawn), oracle.burnt(drawn));
        }
    }

    private static void compareFire(String net, Bench x, Oracle oracle, int stride) {
        for (int fire = 0; fire <= oracle.all(); fire += stride) {
            List<Integer> walls = oracle.walls(fire);
            Check.due(net + "save " + fire, x.one().save(fire), walls.get(0));
            for (int i = 1; i < walls.size(); i++) {
                Check.due(net + "wall " + fire + ", " + (i - 1), x.one().wall(fire, i - 1), walls.get(i));
            }
            Check.due(net + "wall behind the last", x.one().wall(fire, walls.size() - 1), -1);
        }
    }
}
