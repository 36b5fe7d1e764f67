import java.util.List;

/** Many nets, made by a fixed row of numbers: every call against the plain oracle. */
public final class OracleTest {
    private static long state = 20261116L;

    private static int draw(int bound) {
        state = state * 6364136223846793005L + 1442695040888963407L;
        return (int) ((state >>> 33) % bound);
    }

    public static void main(String[] args) {
        for (int i = 0; i < 240; i++) {
            LampNet x = new LampNet();
            int n = i % 8;
            Oracle oracle = randomNet(x, n, 1 + draw(9));
            String net = "net " + i + ": ";
            compareRules(net, x, oracle, n < 6 ? 1 : 5);
            compareSeeds(net, x, oracle);
            compareForts(net, x, oracle);
            compareGuards(net, x, oracle);
            compareGame(net, x, oracle, 1);
            compareBurning(net, x, oracle);
            compareFire(net, x, oracle, n < 6 ? 1 : 13);
        }
        for (int i = 0; i < 12; i++) {
            LampNet x = new LampNet();
            Oracle oracle = randomNet(x, 12, 1 + i % 6);
            String net = "large net " + i + ": ";
            compareRules(net, x, oracle, 97);
            compareSeeds(net, x, oracle);
            compareForts(net, x, oracle);
            compareGuards(net, x, oracle);
            compareGame(net, x, oracle, 31);
        }
        for (int i = 0; i < 12; i++) {
            LampNet x = new LampNet();
            Oracle oracle = randomNet(x, 10, 1 + i % 6);
            compareFire("fire net " + i + ": ", x, oracle, 61);
        }
        Check.end();
    }

    /** Some roads are laid and taken up again, so that what a call kept of the net as it was would show. */
    private static Oracle randomNet(LampNet x, int n, int density) {
        Oracle oracle = new Oracle(n);
        for (int p = 0; p < n; p++) {
            Check.due("post", x.post(), p);
            askAll(x);
        }
        boolean isTwoWay = draw(2) == 0;
        for (int round = 0; round < 2; round++) {
            for (int a = 0; a < n; a++) {
                for (int b = 0; b < n; b++) {
                    if (a != b && (!isTwoWay || a < b)) {
                        int weight = draw(10) < density ? 1 + draw(draw(2) == 0 ? 2 : 9) : 0;
                        setRoad(x, oracle, a, b, weight);
                        if (isTwoWay) {
                            setRoad(x, oracle, b, a, weight);
                        }
                    }
                }
            }
            askAll(x);
        }
        for (int p = 0; p < n; p++) {
            int bar = draw(draw(3) == 0 ? 20 : 5);
            Check.due("bar", x.bar(p, bar), oracle.bar[p]);
            oracle.bar[p] = bar;
            int price = draw(draw(2) == 0 ? 4 : 1001);
            Check.due("price", x.price(p, price), oracle.price[p]);
            oracle.price[p] = price;
        }
        return oracle;
    }

    private static void setRoad(LampNet x, Oracle oracle, int a, int b, int weight) {
        Check.due("road", x.road(a, b, weight), oracle.weight[a][b]);
        oracle.weight[a][b] = weight;
    }

    private static void askAll(LampNet x) {
        for (int rule = 0; rule < 3; rule++) {
            x.least(rule);
            x.win(rule, 0);
            x.apart(rule);
        }
        x.burn();
        x.guards();
    }

    private static void compareRules(String net, LampNet x, Oracle oracle, int stride) {
        for (int p = 0; p < oracle.n; p++) {
            Check.due(net + "of 0", x.of(p, 0), oracle.bar[p]);
            Check.due(net + "of 1", x.of(p, 1), oracle.price[p]);
            Check.due(net + "of 2", x.of(p, 2), oracle.behind(p));
            Check.due(net + "of 3", x.of(p, 3), oracle.ahead(p));
        }
        for (int rule = 0; rule < 3; rule++) {
            for (int seed = 0; seed <= oracle.all(); seed += stride) {
                String of = net + rule + ", " + seed;
                Check.due(of + " go", x.go(rule, seed), oracle.go(rule, seed));
                Check.due(of + " ticks", x.ticks(rule, seed), oracle.ticks(rule, seed));
                for (int p = 0; p < oracle.n; p++) {
                    Check.due(of + " when " + p, x.when(rule, seed, p), oracle.when(rule, seed, p));
                    Check.due(of + " brought " + p, x.brought(rule, seed, p), oracle.brought(rule, seed, p));
                }
            }
        }
    }

    private static void compareSeeds(String net, LampNet x, Oracle oracle) {
        for (int rule = 0; rule < 3; rule++) {
            Check.due(net + "least " + rule, x.least(rule), oracle.least(rule));
            Check.due(net + "many " + rule, x.many(rule), oracle.many(rule));
            Check.due(net + "cheapest " + rule, x.cheapest(rule), oracle.cheapest(rule));
            Check.due(net + "pared " + rule, x.pared(rule), oracle.pared(rule));
        }
    }

    private static void compareForts(String net, LampNet x, Oracle oracle) {
        for (int rule = 0; rule < 2; rule++) {
            for (int set = 0; set <= oracle.all(); set++) {
                Check.due(net + "fort " + rule + ", " + set, x.fort(rule, set), oracle.isFort(rule, set) ? 1 : 0);
            }
            List<Integer> least = oracle.leastForts(rule);
            for (int k = 0; k < least.size(); k++) {
                Check.due(net + "forts " + rule + ", " + k, x.forts(rule, k), least.get(k));
            }
            Check.due(net + "forts behind the last", x.forts(rule, least.size()), -1);
            Check.due(net + "apart " + rule, x.apart(rule), oracle.apart(rule));
        }
    }

    private static void compareGuards(String net, LampNet x, Oracle oracle) {
        boolean[] holding = oracle.holding();
        int fewest = oracle.n;
        for (int set = 0; set <= oracle.all(); set++) {
            Check.due(net + "holds " + set, x.holds(set), holding[set] ? 1 : 0);
            for (int p = 0; p < oracle.n; p++) {
                int due = holding[set] ? oracle.answer(holding, set, p) : -1;
                Check.due(net + "answer " + set + ", " + p, x.answer(set, p), due);
            }
            fewest = holding[set] ? Math.min(fewest, Integer.bitCount(set)) : fewest;
        }
        Check.due(net + "guards", x.guards(), fewest);
    }

    private static void compareGame(String net, LampNet x, Oracle oracle, int stride) {
        for (int rule = 0; rule < 3; rule++) {
            for (int set = 0; set <= oracle.all(); set += stride) {
                int first = oracle.first(rule, set);
                Check.due(net + "first " + rule + ", " + set, x.first(rule, set), first);
                Check.due(net + "win " + rule + ", " + set, x.win(rule, set), first < 0 ? 0 : 1);
            }
        }
    }

    private static void compareBurning(String net, LampNet x, Oracle oracle) {
        Check.due(net + "burn", x.burn(), oracle.burn());
        List<Integer> hands = oracle.hands();
        long told = 0;
        for (int i = hands.size() - 1; i >= 0; i--) {
            Check.due(net + "hand " + i, x.hand(i), hands.get(i));
            told = told * 13 + hands.get(i) + 1;
        }
        Check.due(net + "hand behind the last", x.hand(hands.size()), -1);
        Check.due(net + "burnt of the hands", x.burnt(told), oracle.burn());
        for (int i = 0; i < 60; i++) {
            long drawn = draw(13 * 13);
            for (int digit = draw(8); digit > 0; digit--) {
                drawn = drawn * 13 + draw(oracle.n + 2);
            }
            Check.due(net + "burnt " + drawn, x.burnt(drawn), oracle.burnt(drawn));
        }
    }

    private static void compareFire(String net, LampNet x, Oracle oracle, int stride) {
        for (int fire = 0; fire <= oracle.all(); fire += stride) {
            List<Integer> walls = oracle.walls(fire);
            Check.due(net + "save " + fire, x.save(fire), walls.get(0));
            for (int i = 1; i < walls.size(); i++) {
                Check.due(net + "wall " + fire + ", " + (i - 1), x.wall(fire, i - 1), walls.get(i));
            }
            Check.due(net + "wall behind the last", x.wall(fire, walls.size() - 1), -1);
        }
    }
}
