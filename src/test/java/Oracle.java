import java.util.ArrayList;
import java.util.HashMap;
import java.util.List;
import java.util.Map;

/** The document's words done as plainly as can be, post by post; slow, and sharing nothing with the program. */
final class Oracle {
    final int n;
    final int[][] weight;
    final int[] bar;
    final int[] price;

    Oracle(int n) {
        this.n = n;
        weight = new int[n][n];
        bar = new int[n];
        price = new int[n];
        for (int p = 0; p < n; p++) {
            bar[p] = 1;
            price[p] = 1;
        }
    }

    /** The net as it is now, on a new object. */
    void build(Bench bench) {
        for (int p = 0; p < n; p++) {
            bench.one().post();
        }
        for (int a = 0; a < n; a++) {
            bench.one().bar(a, bar[a]);
            bench.one().price(a, price[a]);
            for (int b = 0; b < n; b++) {
                if (weight[a][b] > 0) {
                    bench.one().road(a, b, weight[a][b]);
                }
            }
        }
    }

    private boolean[] posts(int set) {
        boolean[] posts = new boolean[n];
        for (int p = 0; p < n; p++) {
            posts[p] = (set & (1 << p)) != 0;
        }
        return posts;
    }

    private int number(boolean[] posts) {
        int set = 0;
        for (int p = 0; p < n; p++) {
            set += posts[p] ? 1 << p : 0;
        }
        return set;
    }

    private int size(int set) {
        int size = 0;
        for (boolean in : posts(set)) {
            size += in ? 1 : 0;
        }
        return size;
    }

    int all() {
        return (1 << n) - 1;
    }

    int behind(int p) {
        boolean[] posts = new boolean[n];
        for (int b = 0; b < n; b++) {
            posts[b] = weight[p][b] > 0;
        }
        return number(posts);
    }

    int ahead(int p) {
        boolean[] posts = new boolean[n];
        for (int a = 0; a < n; a++) {
            posts[a] = weight[a][p] > 0;
        }
        return number(posts);
    }

    private boolean isOnlyOffBehind(boolean[] on, int from, int p) {
        if (!on[from] || on[p] || weight[from][p] == 0) {
            return false;
        }
        for (int other = 0; other < n; other++) {
            if (other != p && !on[other] && weight[from][other] > 0) {
                return false;
            }
        }
        return true;
    }

    private boolean comesOn(int rule, int tick, boolean[] on, int p) {
        int sum = 0;
        boolean isForced = false;
        boolean isSeen = false;
        for (int from = 0; from < n; from++) {
            sum += on[from] ? weight[from][p] : 0;
            isForced |= isOnlyOffBehind(on, from, p);
            isSeen |= on[from] && weight[from][p] > 0;
        }
        if (on[p]) {
            return false;
        }
        if (rule == 0) {
            return sum >= bar[p];
        }
        return rule == 2 && tick == 1 ? isSeen : isForced;
    }

    private boolean[] next(int rule, int tick, boolean[] on) {
        boolean[] next = on.clone();
        for (int p = 0; p < n; p++) {
            next[p] |= comesOn(rule, tick, on, p);
        }
        return next;
    }

    /** What is on at each tick; well beyond the end. */
    private List<boolean[]> course(int rule, int seed) {
        List<boolean[]> course = new ArrayList<>();
        course.add(posts(seed));
        for (int tick = 1; tick <= n + 3; tick++) {
            course.add(next(rule, tick, course.get(tick - 1)));
        }
        return course;
    }

    int go(int rule, int seed) {
        return number(course(rule, seed).get(n + 3));
    }

    int ticks(int rule, int seed) {
        int last = 0;
        for (int p = 0; p < n; p++) {
            last = Math.max(last, when(rule, seed, p));
        }
        return last;
    }

    int when(int rule, int seed, int p) {
        List<boolean[]> course = course(rule, seed);
        for (int tick = 0; tick < course.size(); tick++) {
            if (course.get(tick)[p]) {
                return tick;
            }
        }
        return -1;
    }

    int brought(int rule, int seed, int p) {
        int tick = when(rule, seed, p);
        if (tick <= 0) {
            return tick;
        }
        boolean[] on = course(rule, seed).get(tick - 1);
        int set = 0;
        for (int from = 0; from < n; from++) {
            boolean hasRoad = on[from] && weight[from][p] > 0;
            if (rule == 0 && hasRoad) {
                set += 1 << from;
            }
            if (rule != 0 && (rule == 2 && tick == 1 ? hasRoad : isOnlyOffBehind(on, from, p))) {
                return 1 << from;
            }
        }
        return set;
    }

    boolean isFort(int rule, int set) {
        boolean[] on = posts(all() - set);
        for (int p = 0; p < n; p++) {
            if (comesOn(rule, 2, on, p)) {
                return false;
            }
        }
        return set != 0;
    }

    List<Integer> leastForts(int rule) {
        List<Integer> forts = new ArrayList<>();
        for (int set = 1; set <= all(); set++) {
            if (isFort(rule, set)) {
                forts.add(set);
            }
        }
        List<Integer> least = new ArrayList<>();
        for (int set : forts) {
            boolean isLeast = true;
            for (int part : forts) {
                isLeast &= part == set || (part & set) != part;
            }
            if (isLeast) {
                least.add(set);
            }
        }
        least.sort((a, b) -> size(a) != size(b) ? size(a) - size(b) : a - b);
        return least;
    }

    int apart(int rule) {
        return mostOf(leastForts(rule), 0, 0);
    }

    private int mostOf(List<Integer> forts, int from, int used) {
        int best = 0;
        for (int i = from; i < forts.size(); i++) {
            if ((forts.get(i) & used) == 0) {
                best = Math.max(best, 1 + mostOf(forts, i + 1, used | forts.get(i)));
            }
        }
        return best;
    }

    int least(int rule) {
        int best = -1;
        for (int seed = all(); seed >= 0; seed--) {
            if (go(rule, seed) == all() && (best < 0 || size(seed) <= size(best))) {
                best = seed;
            }
        }
        return best;
    }

    int many(int rule) {
        int size = size(least(rule));
        int many = 0;
        for (int seed = 0; seed <= all(); seed++) {
            many += size(seed) == size && go(rule, seed) == all() ? 1 : 0;
        }
        return many;
    }

    private int price(int set) {
        int sum = 0;
        for (int p = 0; p < n; p++) {
            sum += posts(set)[p] ? price[p] : 0;
        }
        return sum;
    }

    int cheapest(int rule) {
        int best = -1;
        for (int seed = all(); seed >= 0; seed--) {
            if (go(rule, seed) == all() && (best < 0 || price(seed) <= price(best))) {
                best = seed;
            }
        }
        return best;
    }

    int pared(int rule) {
        int seed = all();
        for (int p = n - 1; p >= 0; p--) {
            if (go(rule, seed - (1 << p)) == all()) {
                seed -= 1 << p;
            }
        }
        return seed;
    }

    private boolean[] reached(boolean[] on) {
        boolean[] next = on.clone();
        for (int a = 0; a < n; a++) {
            for (int b = 0; b < n; b++) {
                next[b] |= on[a] && weight[a][b] > 0;
            }
        }
        return next;
    }

    /** The first row of hands, in rising order, that has all on behind so many ticks; null without one. */
    private List<Integer> handsWithin(int ticks, boolean[] on) {
        if (number(on) == all()) {
            return new ArrayList<>();
        }
        if (ticks == 0) {
            return null;
        }
        boolean[] reached = reached(on);
        if (number(reached) == all()) {
            return new ArrayList<>();
        }
        for (int p = 0; p < n; p++) {
            if (!reached[p]) {
                boolean[] next = reached.clone();
                next[p] = true;
                List<Integer> rest = handsWithin(ticks - 1, next);
                if (rest != null) {
                    rest.add(0, p);
                    return rest;
                }
            }
        }
        return null;
    }

    int burn() {
        int ticks = 0;
        while (handsWithin(ticks, new boolean[n]) == null) {
            ticks++;
        }
        return ticks;
    }

    List<Integer> hands() {
        return handsWithin(burn(), new boolean[n]);
    }

    int burnt(long hands) {
        if (hands < 0) {
            return -2;
        }
        List<Integer> digits = new ArrayList<>();
        for (long left = hands; left > 0; left /= 13) {
            digits.add((int) (left % 13));
        }
        boolean[] on = new boolean[n];
        int tick = 0;
        while (number(on) != all()) {
            tick++;
            boolean[] next = reached(on);
            if (number(next) != all() && !digits.isEmpty()) {
                int hand = digits.remove(0) - 1;
                if (hand < 0 || hand >= n || next[hand]) {
                    return -2;
                }
                next[hand] = true;
            }
            if (number(next) == number(on)) {
                return -1;
            }
            on = next;
        }
        return tick;
    }

    /** All rows of walls, each with the number that it saves ahead of it. */
    private void wallRows(boolean[] burns, boolean[] walled, List<Integer> row, List<List<Integer>> rows) {
        boolean hasFree = false;
        for (int p = 0; p < n; p++) {
            if (!burns[p] && !walled[p]) {
                hasFree = true;
                boolean[] walledNow = walled.clone();
                walledNow[p] = true;
                List<Integer> longer = new ArrayList<>(row);
                longer.add(p);
                fireTick(burns, walledNow, longer, rows);
            }
        }
        if (!hasFree) {
            fireTick(burns, walled, row, rows);
        }
    }

    private void fireTick(boolean[] burns, boolean[] walled, List<Integer> row, List<List<Integer>> rows) {
        boolean[] next = reached(burns);
        for (int p = 0; p < n; p++) {
            next[p] &= !walled[p];
        }
        if (number(next) != number(burns)) {
            wallRows(next, walled, row, rows);
            return;
        }
        List<Integer> told = new ArrayList<>(row);
        told.add(0, n - size(number(burns)));
        rows.add(told);
    }

    /** The number that is saved at most, and behind it the walls. */
    List<Integer> walls(int fire) {
        List<List<Integer>> rows = new ArrayList<>();
        wallRows(posts(fire), new boolean[n], new ArrayList<>(), rows);
        List<Integer> best = null;
        for (List<Integer> row : rows) {
            if (best == null || row.get(0) > best.get(0) || row.get(0).equals(best.get(0)) && isLess(row, best)) {
                best = row;
            }
        }
        return best;
    }

    private static boolean isLess(List<Integer> row, List<Integer> other) {
        for (int i = 0; i < Math.min(row.size(), other.size()); i++) {
            if (!row.get(i).equals(other.get(i))) {
                return row.get(i) < other.get(i);
            }
        }
        return false;
    }

    /** The sets that hold: those which so many strikes one behind another, more than there are sets, can't break. */
    boolean[] holding() {
        boolean[] holding = new boolean[all() + 1];
        java.util.Arrays.fill(holding, true);
        for (int strike = 0; strike <= all() + 1; strike++) {
            boolean[] before = holding.clone();
            for (int set = 0; set <= all(); set++) {
                for (int p = 0; p < n; p++) {
                    if (!posts(set)[p] && answer(before, set, p) < 0) {
                        holding[set] = false;
                    }
                }
            }
            if (java.util.Arrays.equals(before, holding)) {
                break;
            }
        }
        return holding;
    }

    int guards(boolean[] holding) {
        int fewest = n;
        for (int set = 0; set <= all(); set++) {
            fewest = holding[set] ? Math.min(fewest, size(set)) : fewest;
        }
        return fewest;
    }

    int answer(boolean[] holding, int set, int p) {
        boolean[] stands = posts(set);
        for (int from = 0; from < n; from++) {
            if (stands[from] && !stands[p] && weight[from][p] > 0 && holding[set - (1 << from) + (1 << p)]) {
                return from;
            }
        }
        return -1;
    }

    private final Map<Integer, Integer> firsts = new HashMap<>();

    /** The least post by which who is to put wins, or -1; the net must not change behind the first call. */
    int first(int rule, int set) {
        Integer known = firsts.get(rule * 10000 + set);
        if (known != null) {
            return known;
        }
        int found = -1;
        for (int p = n - 1; p >= 0; p--) {
            if (!posts(set)[p] && first(rule, go(rule, set + (1 << p))) < 0) {
                found = p;
            }
        }
        firsts.put(rule * 10000 + set, found);
        return found;
    }
}
