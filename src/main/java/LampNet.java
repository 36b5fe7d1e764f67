/** A bench where a few posts set a whole net going; ../shared/DOC.md tells what each call answers. */
public final class LampNet {
    private static final int REFUSED = -2;
    private static final int NONE = -1;

    private static final int MOST_POSTS = 12;
    private static final int MOST_SETS = 1 << MOST_POSTS;
    private static final int MOST_POSTS_OF_FIRE = 10;
    private static final int MOST_WEIGHT = 9;
    private static final int MOST_BAR = 99;
    private static final int MOST_PRICE = 1000;

    private static final int BARS = 0;
    private static final int FORCED = 1;
    private static final int SEEN = 2;
    private static final int RULES = 3;
    /** BARS and FORCED: those of the rules by which a tick hangs on nothing but what is on. */
    private static final int PLAIN_RULES = 2;

    private static final int HAND_BASE = 13;

    private final Net net;
    private final Spread spread;
    private final Course course;
    private final Seeds seeds;
    private final Strongholds strongholds;
    private final Burning burning;
    private final Fire fires;
    private final Watch watch;
    private final Game game;

    public LampNet() {
        net = new Net();
        spread = new Spread(net);
        course = new Course(net, spread);
        seeds = new Seeds(net);
        strongholds = new Strongholds(net, spread);
        burning = new Burning(net);
        fires = new Fire(net);
        watch = new Watch(net);
        game = new Game(net, spread);
    }

    public int post() {
        return net.posts >= MOST_POSTS ? REFUSED : net.addPost();
    }

    public int road(int a, int b, int weight) {
        if (!net.isPost(a) || !net.isPost(b) || a == b || weight < 0 || weight > MOST_WEIGHT) {
            return REFUSED;
        }
        return net.setWeight(a, b, weight);
    }

    public int bar(int p, int bar) {
        if (!net.isPost(p) || bar < 0 || bar > MOST_BAR) {
            return REFUSED;
        }
        return net.setBar(p, bar);
    }

    public int price(int p, int price) {
        if (!net.isPost(p) || price < 0 || price > MOST_PRICE) {
            return REFUSED;
        }
        return net.setPrice(p, price);
    }

    public int of(int p, int what) {
        if (!net.isPost(p)) {
            return REFUSED;
        }
        switch (what) {
            case 0:
                return net.bars[p];
            case 1:
                return net.prices[p];
            case 2:
                return net.behind[p];
            case 3:
                return net.ahead[p];
            default:
                return REFUSED;
        }
    }

    public int go(int rule, int seed) {
        if (!isRule(rule) || !net.isSet(seed)) {
            return REFUSED;
        }
        course.follow(rule, seed);
        return course.onAtEnd();
    }

    public int ticks(int rule, int seed) {
        if (!isRule(rule) || !net.isSet(seed)) {
            return REFUSED;
        }
        course.follow(rule, seed);
        return course.end;
    }

    public int when(int rule, int seed, int p) {
        if (!isRule(rule) || !net.isSet(seed) || !net.isPost(p)) {
            return REFUSED;
        }
        course.follow(rule, seed);
        return course.tickOf(p);
    }

    public int brought(int rule, int seed, int p) {
        if (!isRule(rule) || !net.isSet(seed) || !net.isPost(p)) {
            return REFUSED;
        }
        course.follow(rule, seed);
        return course.bringersOf(rule, p);
    }

    public int fort(int rule, int set) {
        if (!isPlainRule(rule) || !net.isSet(set)) {
            return REFUSED;
        }
        return strongholds.isFort(rule, set) ? 1 : 0;
    }

    public int forts(int rule, int k) {
        if (!isPlainRule(rule) || k < 0) {
            return REFUSED;
        }
        return strongholds.leastFort(rule, k);
    }

    public int apart(int rule) {
        return isPlainRule(rule) ? strongholds.mostApart(rule) : REFUSED;
    }

    public int least(int rule) {
        return isRule(rule) ? seeds.smallest(spread.endsOf(rule)) : REFUSED;
    }

    public int many(int rule) {
        return isRule(rule) ? seeds.howManySmallest(spread.endsOf(rule)) : REFUSED;
    }

    public int cheapest(int rule) {
        return isRule(rule) ? seeds.leastPriced(spread.endsOf(rule)) : REFUSED;
    }

    public int pared(int rule) {
        return isRule(rule) ? seeds.paredDown(spread.endsOf(rule)) : REFUSED;
    }

    public int burn() {
        return burning.fewestTicks();
    }

    public int hand(int i) {
        return burning.bestHand(i);
    }

    public int burnt(long hands) {
        return hands < 0 ? REFUSED : burning.ticksByHands(hands);
    }

    public int save(int fire) {
        if (!net.isSet(fire) || net.posts > MOST_POSTS_OF_FIRE) {
            return REFUSED;
        }
        return fires.saved(fire);
    }

    public int wall(int fire, int i) {
        if (!net.isSet(fire) || net.posts > MOST_POSTS_OF_FIRE) {
            return REFUSED;
        }
        return fires.bestWall(fire, i);
    }

    public int holds(int set) {
        if (!net.isSet(set)) {
            return REFUSED;
        }
        return watch.freshHolding()[set] ? 1 : 0;
    }

    public int guards() {
        return watch.fewestHolding();
    }

    public int answer(int set, int p) {
        if (!net.isSet(set) || !net.isPost(p)) {
            return REFUSED;
        }
        return watch.answerFrom(set, p);
    }

    public int win(int rule, int set) {
        if (!isRule(rule) || !net.isSet(set)) {
            return REFUSED;
        }
        return game.winsOf(rule)[set];
    }

    public int first(int rule, int set) {
        if (!isRule(rule) || !net.isSet(set)) {
            return REFUSED;
        }
        return game.winningPost(game.winsOf(rule), spread.endsOf(rule), set);
    }

    public int count() {
        return net.posts;
    }

    private static boolean isRule(int rule) {
        return rule >= 0 && rule < RULES;
    }

    private static boolean isPlainRule(int rule) {
        return rule >= 0 && rule < PLAIN_RULES;
    }

    private static boolean hasPost(int set, int p) {
        return (set >> p & 1) != 0;
    }

    /** The posts with their bars and prices, and the roads. */
    private static final class Net {
        private int posts;
        /** Grows with each change of posts and roads; never 0, so that a table of version 0 is stale. */
        private int roadsVersion = 1;
        /** Grows with each change of bars, on which the tables of BARS alone hang. */
        private int barsVersion;
        private final int[] bars = new int[MOST_POSTS];
        private final int[] prices = new int[MOST_POSTS];
        private final int[][] weights = new int[MOST_POSTS][MOST_POSTS];
        /** For each post the set of those to which a road leads from it. */
        private final int[] behind = new int[MOST_POSTS];
        /** For each post the set of those from which a road leads to it. */
        private final int[] ahead = new int[MOST_POSTS];

        boolean isPost(int p) {
            return p >= 0 && p < posts;
        }

        boolean isSet(int set) {
            return set >= 0 && set <= allPosts();
        }

        int allPosts() {
            return (1 << posts) - 1;
        }

        int versionOf(int rule) {
            return rule == BARS ? roadsVersion + barsVersion : roadsVersion;
        }

        int addPost() {
            int added = posts;
            bars[added] = 1;
            prices[added] = 1;
            posts++;
            roadsVersion++;
            return added;
        }

        int setWeight(int a, int b, int weight) {
            int had = weights[a][b];
            weights[a][b] = weight;
            if (weight == 0) {
                behind[a] &= ~(1 << b);
                ahead[b] &= ~(1 << a);
            } else {
                behind[a] |= 1 << b;
                ahead[b] |= 1 << a;
            }
            roadsVersion++;
            return had;
        }

        int setBar(int p, int bar) {
            int had = bars[p];
            bars[p] = bar;
            barsVersion++;
            return had;
        }

        // No table hangs on prices, so no version grows.
        int setPrice(int p, int price) {
            int had = prices[p];
            prices[p] = price;
            return had;
        }

        int priceOf(int set) {
            int sum = 0;
            for (int p = 0; p < posts; p++) {
                if (hasPost(set, p)) {
                    sum += prices[p];
                }
            }
            return sum;
        }

        int weightOnto(int p, int on) {
            int leading = on & ahead[p];
            int sum = 0;
            for (int from = 0; from < posts && leading >> from != 0; from++) {
                sum += (leading >> from & 1) * weights[from][p];
            }
            return sum;
        }

        int withBehind(int set) {
            int all = set;
            for (int p = 0; p < posts; p++) {
                if (hasPost(set, p)) {
                    all |= behind[p];
                }
            }
            return all;
        }
    }

    /** How the rules bring posts on: a tick of them, and to which end they come from any set. */
    private static final class Spread {
        private final Net net;
        private final int[][] ends = new int[RULES][MOST_SETS];
        private final int[] endsVersion = new int[RULES];

        Spread(Net net) {
            this.net = net;
        }

        int afterTick(int rule, int on) {
            return rule == BARS ? afterTickOfBars(on) : afterTickOfForced(on);
        }

        private int afterTickOfBars(int on) {
            int next = on;
            for (int p = 0; p < net.posts; p++) {
                if (!hasPost(on, p) && net.weightOnto(p, on) >= net.bars[p]) {
                    next |= 1 << p;
                }
            }
            return next;
        }

        private int afterTickOfForced(int on) {
            int next = on;
            for (int p = 0; p < net.posts; p++) {
                int offBehind = net.behind[p] & ~on;
                boolean atMostOne = (offBehind & offBehind - 1) == 0;
                if (atMostOne && hasPost(on, p)) {
                    next |= offBehind;
                }
            }
            return next;
        }

        /** For each seed what is on at the end. */
        int[] endsOf(int rule) {
            if (endsVersion[rule] != net.versionOf(rule)) {
                if (rule == SEEN) {
                    fillPlain(FORCED);
                    fillSeen();
                } else {
                    fillPlain(rule);
                }
            }
            return ends[rule];
        }

        // A tick only adds posts, so what it leads to is greater as a number and stands already.
        private void fillPlain(int rule) {
            int[] row = ends[rule];
            for (int on = net.allPosts(); on >= 0; on--) {
                int next = afterTick(rule, on);
                row[on] = next == on ? on : row[next];
            }
            endsVersion[rule] = net.versionOf(rule);
        }

        // Behind its first tick SEEN goes on as FORCED does from there.
        private void fillSeen() {
            int all = net.allPosts();
            for (int seed = 0; seed <= all; seed++) {
                ends[SEEN][seed] = ends[FORCED][net.withBehind(seed)];
            }
            endsVersion[SEEN] = net.versionOf(SEEN);
        }
    }

    /** One going of a rule from a seed, tick by tick. */
    private static final class Course {
        private final Net net;
        private final Spread spread;
        /** One tick for each post, tick 0, and one for a first tick of SEEN that brings none on. */
        private final int[] onAt = new int[MOST_POSTS + 2];
        private int end;

        Course(Net net, Spread spread) {
            this.net = net;
            this.spread = spread;
        }

        void follow(int rule, int seed) {
            onAt[0] = seed;
            end = 0;
            for (int tick = 1; tick < onAt.length; tick++) {
                int on = onAt[tick - 1];
                boolean isSight = rule == SEEN && tick == 1;
                onAt[tick] = isSight ? net.withBehind(on) : spread.afterTick(rule, on);
                if (onAt[tick] != on) {
                    end = tick;
                } else if (!isSight) {
                    return;
                }
            }
        }

        int onAtEnd() {
            return onAt[end];
        }

        int tickOf(int p) {
            for (int tick = 0; tick <= end; tick++) {
                if (hasPost(onAt[tick], p)) {
                    return tick;
                }
            }
            return NONE;
        }

        int bringersOf(int rule, int p) {
            int tick = tickOf(p);
            if (tick < 0) {
                return NONE;
            }
            if (tick == 0) {
                return 0;
            }
            int on = onAt[tick - 1];
            int leading = on & net.ahead[p];
            if (rule == BARS) {
                return leading;
            }
            return rule == SEEN && tick == 1 ? leading & -leading : leastForcing(p, on);
        }

        private int leastForcing(int p, int on) {
            for (int from = 0; from < net.posts; from++) {
                if (hasPost(on, from) && (net.behind[from] & ~on) == 1 << p) {
                    return 1 << from;
                }
            }
            return 0;
        }
    }

    /** The seeds that set going, by a row that tells what each seed ends with. */
    private static final class Seeds {
        private final Net net;

        Seeds(Net net) {
            this.net = net;
        }

        int smallest(int[] ends) {
            int all = net.allPosts();
            int best = all;
            for (int seed = 0; seed < all; seed++) {
                if (ends[seed] == all && Integer.bitCount(seed) < Integer.bitCount(best)) {
                    best = seed;
                }
            }
            return best;
        }

        int howManySmallest(int[] ends) {
            int all = net.allPosts();
            int size = Integer.bitCount(smallest(ends));
            int found = 0;
            for (int seed = 0; seed <= all; seed++) {
                if (ends[seed] == all && Integer.bitCount(seed) == size) {
                    found++;
                }
            }
            return found;
        }

        int leastPriced(int[] ends) {
            int all = net.allPosts();
            int best = all;
            // Above the price of all posts, so that a lesser seed of that same price is still taken.
            int bestPrice = net.priceOf(all) + 1;
            for (int seed = 0; seed <= all; seed++) {
                if (ends[seed] == all && net.priceOf(seed) < bestPrice) {
                    best = seed;
                    bestPrice = net.priceOf(seed);
                }
            }
            return best;
        }

        // More seed never brings less on: what could not be left out once cannot be later either.
        int paredDown(int[] ends) {
            int all = net.allPosts();
            int seed = all;
            for (int p = net.posts - 1; p >= 0; p--) {
                int without = seed & ~(1 << p);
                if (ends[without] == all) {
                    seed = without;
                }
            }
            return seed;
        }
    }

    /**
     * The forts of BARS and of FORCED. A set is a fort if the others end with themselves. By both rules
     * more seed never brings less on, so whatever the others of a set do not end with is the union of
     * all forts within that set.
     */
    private static final class Strongholds {
        private final Net net;
        private final Spread spread;
        /** For each set how many forts within it can be apart, while one rule's most is counted. */
        private final int[] most = new int[MOST_SETS];
        private final int[] mostOfAll = new int[PLAIN_RULES];
        private final int[] mostVersion = new int[PLAIN_RULES];

        Strongholds(Net net, Spread spread) {
            this.net = net;
            this.spread = spread;
        }

        boolean isFort(int rule, int set) {
            return set != 0 && fortsWithin(spread.endsOf(rule), set) == set;
        }

        private int fortsWithin(int[] ends, int set) {
            int all = net.allPosts();
            return all & ~ends[all & ~set];
        }

        int leastFort(int rule, int k) {
            int[] ends = spread.endsOf(rule);
            int all = net.allPosts();
            int passed = 0;
            for (int size = 1; size <= net.posts; size++) {
                for (int set = 1; set <= all; set++) {
                    if (isLeast(ends, set) && Integer.bitCount(set) == size) {
                        if (passed == k) {
                            return set;
                        }
                        passed++;
                    }
                }
            }
            return NONE;
        }

        private boolean isLeast(int[] ends, int set) {
            if (fortsWithin(ends, set) != set) {
                return false;
            }
            for (int p = 0; p < net.posts; p++) {
                if (hasPost(set, p) && fortsWithin(ends, set & ~(1 << p)) != 0) {
                    return false;
                }
            }
            return true;
        }

        int mostApart(int rule) {
            if (mostVersion[rule] != net.versionOf(rule)) {
                int[] ends = spread.endsOf(rule);
                int all = net.allPosts();
                for (int set = 0; set <= all; set++) {
                    most[set] = mostWithin(ends, set);
                }
                mostOfAll[rule] = most[all];
                mostVersion[rule] = net.versionOf(rule);
            }
            return mostOfAll[rule];
        }

        private int mostWithin(int[] ends, int set) {
            if (set == 0) {
                return 0;
            }
            int useful = fortsWithin(ends, set);
            return useful == set ? mostByLowest(ends, set) : most[useful];
        }

        // The lowest post is in one of the forts or in none; either way lesser sets are left.
        private int mostByLowest(int[] ends, int set) {
            int lowest = set & -set;
            int rest = set & ~lowest;
            int best = most[rest];
            for (int other = rest; other > 0; other = other - 1 & rest) {
                int fort = set & ~other;
                if (most[other] >= best && fortsWithin(ends, fort) == fort) {
                    best = most[other] + 1;
                }
            }
            // A set that gets here is a fort itself.
            return Math.max(best, 1);
        }
    }

    /** Burning with hands. */
    private static final class Burning {
        private final Net net;
        /** For each set that is on how many further ticks it takes at the fewest. */
        private final int[] ticksLeft = new int[MOST_SETS];
        private int ticksVersion;

        Burning(Net net) {
            this.net = net;
        }

        int fewestTicks() {
            renewTicks();
            return ticksLeft[0];
        }

        int bestHand(int i) {
            renewTicks();
            int all = net.allPosts();
            int on = 0;
            for (int put = 0; put < MOST_POSTS; put++) {
                int reached = net.withBehind(on);
                if (reached == all) {
                    return NONE;
                }
                int p = bestPost(reached);
                if (put == i) {
                    return p;
                }
                on = reached | 1 << p;
            }
            return NONE;
        }

        /** What a tick's roads have reached leaves some post off. */
        private int bestPost(int reached) {
            int best = 0;
            int fewest = MOST_POSTS + 1;
            for (int p = 0; p < net.posts; p++) {
                if (!hasPost(reached, p) && ticksLeft[reached | 1 << p] < fewest) {
                    best = p;
                    fewest = ticksLeft[reached | 1 << p];
                }
            }
            return best;
        }

        private void renewTicks() {
            if (ticksVersion == net.roadsVersion) {
                return;
            }
            int all = net.allPosts();
            ticksLeft[all] = 0;
            // A tick adds a post at least, so what it leads to is greater as a number and stands already.
            for (int on = all - 1; on >= 0; on--) {
                int reached = net.withBehind(on);
                ticksLeft[on] = reached == all ? 1 : 1 + ticksLeft[reached | 1 << bestPost(reached)];
            }
            ticksVersion = net.roadsVersion;
        }

        int ticksByHands(long hands) {
            int all = net.allPosts();
            int on = 0;
            long left = hands;
            // Each tick that does not end it brings a post on.
            for (int tick = 0; tick <= MOST_POSTS; tick++) {
                if (on == all) {
                    return tick;
                }
                int reached = net.withBehind(on);
                if (reached != all && left > 0) {
                    int p = (int) (left % HAND_BASE) - 1;
                    if (!net.isPost(p) || hasPost(reached, p)) {
                        return REFUSED;
                    }
                    reached |= 1 << p;
                    left /= HAND_BASE;
                }
                if (reached == on) {
                    return NONE;
                }
                on = reached;
            }
            return NONE;
        }
    }

    /** Walls against fire. */
    private static final class Fire {
        private final Net net;

        Fire(Net net) {
            this.net = net;
        }

        int saved(int fire) {
            return mostSaved(fire, 0, 0);
        }

        // Each tick but the last takes two posts away from those that can still be walled,
        // so there are few rows, and none of this needs to be kept.
        private int mostSaved(int burning, int walled, int depth) {
            int free = net.allPosts() & ~(burning | walled);
            if (free == 0 || depth > MOST_POSTS) {
                return net.posts - Integer.bitCount(burning);
            }
            int best = 0;
            for (int p = 0; p < net.posts; p++) {
                if (hasPost(free, p)) {
                    best = Math.max(best, savedBehind(burning, walled | 1 << p, depth));
                }
            }
            return best;
        }

        private int savedBehind(int burning, int walled, int depth) {
            int next = afterTick(burning, walled);
            if (next == burning) {
                return net.posts - Integer.bitCount(burning);
            }
            return mostSaved(next, walled, depth + 1);
        }

        private int afterTick(int burning, int walled) {
            return net.withBehind(burning) & ~walled;
        }

        int bestWall(int fire, int i) {
            int burning = fire;
            int walled = 0;
            for (int tick = 0; tick < MOST_POSTS; tick++) {
                int p = bestPost(burning, walled);
                if (p == NONE || tick == i) {
                    return p;
                }
                walled |= 1 << p;
                int next = afterTick(burning, walled);
                if (next == burning) {
                    return NONE;
                }
                burning = next;
            }
            return NONE;
        }

        private int bestPost(int burning, int walled) {
            int best = NONE;
            int saved = -1;
            for (int p = 0; p < net.posts; p++) {
                if (!hasPost(burning | walled, p)) {
                    int savedByThis = savedBehind(burning, walled | 1 << p, 0);
                    if (savedByThis > saved) {
                        best = p;
                        saved = savedByThis;
                    }
                }
            }
            return best;
        }
    }

    /** Guards that answer each strike for ever. */
    private static final class Watch {
        private final Net net;
        private final boolean[] holding = new boolean[MOST_SETS];
        private int holdingVersion;

        Watch(Net net) {
            this.net = net;
        }

        /** For each set whether it holds. */
        boolean[] freshHolding() {
            if (holdingVersion != net.roadsVersion) {
                fillHolding();
                holdingVersion = net.roadsVersion;
            }
            return holding;
        }

        // For ever: what is left when each set that fails a strike is taken away, till none fails.
        private void fillHolding() {
            int all = net.allPosts();
            for (int set = 0; set <= all; set++) {
                holding[set] = true;
            }
            boolean hasFailed = true;
            for (int round = 0; round <= MOST_SETS && hasFailed; round++) {
                hasFailed = takeFailingAway(all);
            }
        }

        int fewestHolding() {
            boolean[] row = freshHolding();
            int all = net.allPosts();
            int fewest = net.posts;
            for (int set = 0; set <= all; set++) {
                if (row[set]) {
                    fewest = Math.min(fewest, Integer.bitCount(set));
                }
            }
            return fewest;
        }

        int answerFrom(int set, int p) {
            boolean isHolding = freshHolding()[set];
            return hasPost(set, p) || !isHolding ? NONE : leastAnswer(set, p);
        }

        private int leastAnswer(int set, int p) {
            int near = set & net.ahead[p];
            for (int from = 0; from < net.posts && near >> from != 0; from++) {
                if (hasPost(near, from) && holding[set & ~(1 << from) | 1 << p]) {
                    return from;
                }
            }
            return NONE;
        }

        private boolean takeFailingAway(int all) {
            boolean hasFailed = false;
            for (int set = 0; set <= all; set++) {
                if (holding[set] && !answersAll(set)) {
                    holding[set] = false;
                    hasFailed = true;
                }
            }
            return hasFailed;
        }

        private boolean answersAll(int set) {
            for (int p = 0; p < net.posts; p++) {
                if (!hasPost(set, p) && leastAnswer(set, p) == NONE) {
                    return false;
                }
            }
            return true;
        }
    }

    /** The game of lighting. */
    private static final class Game {
        private final Net net;
        private final Spread spread;
        /** For each rule and set 1 where who is to put wins. */
        private final byte[][] wins = new byte[RULES][MOST_SETS];
        private final int[] winsVersion = new int[RULES];

        Game(Net net, Spread spread) {
            this.net = net;
            this.spread = spread;
        }

        byte[] winsOf(int rule) {
            byte[] row = wins[rule];
            if (winsVersion[rule] != net.versionOf(rule)) {
                int[] ends = spread.endsOf(rule);
                // Each put adds a post, so what it leads to is greater as a number and stands already.
                for (int set = net.allPosts(); set >= 0; set--) {
                    row[set] = (byte) (winningPost(row, ends, set) == NONE ? 0 : 1);
                }
                winsVersion[rule] = net.versionOf(rule);
            }
            return row;
        }

        int winningPost(byte[] row, int[] ends, int set) {
            for (int p = 0; p < net.posts; p++) {
                if (!hasPost(set, p) && row[ends[set | 1 << p]] == 0) {
                    return p;
                }
            }
            return NONE;
        }
    }
}
