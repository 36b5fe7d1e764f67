/** The edges that promises 7 to 10 name, each with a test of its own. */
public final class RulesEdgesTest {
    private static final int[] NO_RULES = {-1, 3, 4, Integer.MIN_VALUE, Integer.MAX_VALUE};

    public static void main(String[] args) {
        goOfNoRule();
        goOfNoSet();
        goOfSet0();
        goOfAllPosts();
        goByBar0();
        goByBar99();
        goWithWeightsTogether();
        goForcedByTheOnlyOne();
        goSeenAtTick1Alone();
        ticksOfNoRule();
        ticksOfNoSet();
        ticksFrom0To11();
        when0OfTheSeed();
        whenItDoesNot();
        whenRefusedAsGo();
        whenOfNoPost();
        brought0OfTheSeed();
        broughtWhenItDoesNot();
        broughtByNoneOverBar0();
        broughtByOneButByBars();
        broughtBySeenFromTick2On();
        broughtRefusedAsWhen();
        broughtOfNoPost();
        Check.end();
    }

    /** No sets of so many posts: below 0, and each with a bit too many. */
    private static int[] noSets(int posts) {
        int one = 1 << posts;
        return new int[] {-1, Integer.MIN_VALUE, one, one + 1, 2 * one - 1, one | 1 << 30, Integer.MAX_VALUE};
    }

    private static int[] noPosts(int posts) {
        return new int[] {-1, posts, posts + 1, 12, 32, 33, Integer.MIN_VALUE, Integer.MAX_VALUE};
    }

    /** Promise 7: '-2 when there is no such RULE' */
    private static void goOfNoRule() {
        for (int rule : NO_RULES) {
            Check.due("go by " + rule, Nets.path(3).go(rule, 1), -2);
            Check.due("go by " + rule + " from all", Nets.path(12).go(rule, 4095), -2);
            Check.due("go by " + rule + " without posts", new LampNet().go(rule, 0), -2);
            Check.due("go by " + rule + " from no set", Nets.path(3).go(rule, 8), -2);
        }
        for (int rule = 0; rule < 3; rule++) {
            Check.due("go by " + rule, Nets.path(3).go(rule, 1), 7);
        }
    }

    /** Promise 7: '-2 when .. seed is no set of posts' */
    private static void goOfNoSet() {
        for (int rule = 0; rule < 3; rule++) {
            for (int posts : new int[] {0, 1, 3, 11, 12}) {
                for (int set : noSets(posts)) {
                    Check.due("go of " + posts + " from " + set, Nets.path(posts).go(rule, set), -2);
                }
            }
            LampNet grows = Nets.posts(11);
            Check.due("one bit too large", grows.go(rule, 2048), -2);
            grows.post();
            Check.due("now a set", grows.go(rule, 2048), 2048);
        }
    }

    /** Promise 7: '(0 is one)' */
    private static void goOfSet0() {
        for (int rule = 0; rule < 3; rule++) {
            for (int posts : new int[] {0, 1, 3, 12}) {
                Check.due("go from none", Nets.path(posts).go(rule, 0), 0);
            }
        }
    }

    private static void goOfAllPosts() {
        for (int rule = 0; rule < 3; rule++) {
            Check.due("all of one", Nets.posts(1).go(rule, 1), 1);
            Check.due("all of three", Nets.posts(3).go(rule, 7), 7);
            Check.due("all of twelve", Nets.posts(12).go(rule, 4095), 4095);
        }
    }

    /** 'together its BAR or more': nothing is 0 or more */
    private static void goByBar0() {
        LampNet x = Nets.posts(12);
        x.bar(0, 0);
        x.bar(11, 0);
        Check.due("without seed or road", x.go(0, 0), 2049);
        Check.due("by FORCED bars are none of it", x.go(1, 0), 0);
        Check.due("by SEEN bars are none of it", x.go(2, 0), 0);
    }

    /** 11 roads of weight 9 are 99 together, which is the highest bar. */
    private static void goByBar99() {
        LampNet x = Nets.posts(12);
        for (int p = 0; p < 11; p++) {
            x.road(p, 11, 9);
        }
        x.bar(11, 99);
        Check.due("99 of 99", x.go(0, 2047), 4095);
        x.road(10, 11, 8);
        Check.due("98 of 99", x.go(0, 2047), 2047);
    }

    private static void goWithWeightsTogether() {
        LampNet x = Nets.posts(3);
        x.road(0, 2, 4);
        x.road(1, 2, 5);
        x.bar(2, 9);
        Check.due("just its bar", x.go(0, 3), 7);
        x.bar(2, 10);
        Check.due("one too few", x.go(0, 3), 3);
        x.bar(2, 8);
        Check.due("more than its bar", x.go(0, 3), 7);
    }

    /** 'the only one that is off of those BEHIND some post that is ON' */
    private static void goForcedByTheOnlyOne() {
        LampNet x = Nets.posts(3);
        x.road(0, 1, 1);
        Check.due("one off behind 0", x.go(1, 1), 3);
        x.road(0, 2, 1);
        Check.due("two off behind 0", x.go(1, 1), 1);
        Check.due("one of them on", x.go(1, 3), 7);
        Check.due("0 is off itself", x.go(1, 2), 2);
        Check.due("none is off behind 0", x.go(1, 7), 7);
    }

    /** 'by SEEN at TICK 1 all that are BEHIND a post of the SEED, at others as by FORCED' */
    private static void goSeenAtTick1Alone() {
        LampNet x = Nets.posts(5);
        x.road(0, 1, 1);
        x.road(0, 2, 1);
        x.road(1, 3, 1);
        x.road(1, 4, 1);
        Check.due("two seen, and two off behind 1", x.go(2, 1), 7);
        x.road(1, 4, 0);
        Check.due("two seen, and one off behind 1", x.go(2, 1), 15);
        Check.due("it takes two ticks", x.ticks(2, 1), 2);
    }

    /** Promise 8: '-2 as of go()': the rule */
    private static void ticksOfNoRule() {
        for (int rule : NO_RULES) {
            Check.due("ticks by " + rule, Nets.path(3).ticks(rule, 1), -2);
            Check.due("ticks by " + rule + " from none", Nets.path(3).ticks(rule, 0), -2);
            Check.due("ticks by " + rule + " without posts", new LampNet().ticks(rule, 0), -2);
            Check.due("ticks by " + rule + " from no set", Nets.path(3).ticks(rule, -1), -2);
        }
    }

    /** Promise 8: '-2 as of go()': the seed */
    private static void ticksOfNoSet() {
        for (int rule = 0; rule < 3; rule++) {
            for (int posts : new int[] {0, 1, 3, 12}) {
                for (int set : noSets(posts)) {
                    Check.due("ticks of " + posts + " from " + set, Nets.path(posts).ticks(rule, set), -2);
                }
                Check.due("ticks from 0", Nets.path(posts).ticks(rule, 0), 0);
                Check.due("ticks from all", Nets.path(posts).ticks(rule, (1 << posts) - 1), 0);
            }
        }
    }

    /** Promise 8: as short and as long as it can be */
    private static void ticksFrom0To11() {
        for (int rule = 0; rule < 3; rule++) {
            for (int posts = 1; posts <= 12; posts++) {
                Check.due("chain of " + posts, Nets.chain(posts).ticks(rule, 1), posts - 1);
            }
        }
        LampNet x = Nets.chain(12);
        x.bar(0, 0);
        Check.due("twelve ticks from no seed", x.ticks(0, 0), 12);
        Check.due("all are on then", x.go(0, 0), 4095);
    }

    /** Promise 9: '(0 of the SEED)' */
    private static void when0OfTheSeed() {
        for (int rule = 0; rule < 3; rule++) {
            LampNet x = Nets.complete(12);
            for (int p = 0; p < 12; p++) {
                Check.due("of all", x.when(rule, 4095, p), 0);
                Check.due("the only one", x.when(rule, 1 << p, p), 0);
            }
        }
        LampNet zero = Nets.posts(1);
        zero.bar(0, 0);
        Check.due("of the seed, whatever its bar is", zero.when(0, 1, 0), 0);
        Check.due("not of the seed", zero.when(0, 0, 0), 1);
    }

    /** Promise 9: '-1 when it does not' */
    private static void whenItDoesNot() {
        for (int rule = 0; rule < 3; rule++) {
            LampNet x = Nets.chain(12);
            Check.due("no seed", x.when(rule, 0, 0), -1);
            Check.due("no seed, the last", x.when(rule, 0, 11), -1);
            Check.due("ahead of the seed", x.when(rule, 2, 0), -1);
            Check.due("the last one", x.when(rule, 1, 11), 11);
            x.road(10, 11, 0);
            Check.due("the last one no more", x.when(rule, 1, 11), -1);
            Check.due("the last but one", x.when(rule, 1, 10), 10);
        }
    }

    /** Promise 9: '-2 as of go()' */
    private static void whenRefusedAsGo() {
        for (int rule : NO_RULES) {
            Check.due("when by " + rule, Nets.path(3).when(rule, 1, 0), -2);
            Check.due("when by " + rule + ", no post", Nets.path(3).when(rule, 1, 3), -2);
        }
        for (int rule = 0; rule < 3; rule++) {
            for (int set : noSets(3)) {
                Check.due("when from " + set, Nets.path(3).when(rule, set, 0), -2);
            }
            for (int set : noSets(12)) {
                Check.due("when of 12 from " + set, Nets.path(12).when(rule, set, 11), -2);
            }
            Check.due("when from 0", Nets.path(3).when(rule, 0, 0), -1);
            Check.due("when from all", Nets.path(3).when(rule, 7, 0), 0);
        }
    }

    /** Promise 9: '-2 .. when there is no such post' */
    private static void whenOfNoPost() {
        for (int rule = 0; rule < 3; rule++) {
            for (int posts : new int[] {0, 1, 3, 12}) {
                for (int p : noPosts(posts)) {
                    Check.due("when of " + p, Nets.path(posts).when(rule, 0, p), -2);
                    Check.due("when of " + p, Nets.path(posts).when(rule, (1 << posts) - 1, p), -2);
                }
            }
            Check.due("when of 11", Nets.path(12).when(rule, 1, 11), 11);
        }
    }

    /** Promise 10: '0 when it is of the SEED' */
    private static void brought0OfTheSeed() {
        for (int rule = 0; rule < 3; rule++) {
            LampNet x = Nets.complete(12);
            for (int p = 0; p < 12; p++) {
                Check.due("of all", x.brought(rule, 4095, p), 0);
                Check.due("the only one", x.brought(rule, 1 << p, p), 0);
            }
        }
    }

    /** Promise 10: '-1 when it does not come ON' */
    private static void broughtWhenItDoesNot() {
        for (int rule = 0; rule < 3; rule++) {
            LampNet x = Nets.chain(12);
            Check.due("no seed", x.brought(rule, 0, 0), -1);
            Check.due("no seed, the last", x.brought(rule, 0, 11), -1);
            Check.due("ahead of the seed", x.brought(rule, 2, 0), -1);
            Check.due("the last one", x.brought(rule, 1, 11), 1024);
            x.road(10, 11, 0);
            Check.due("the last one no more", x.brought(rule, 1, 11), -1);
        }
        LampNet bars = Nets.chain(2);
        bars.bar(1, 2);
        Check.due("a road that is not enough", bars.brought(0, 1, 1), -1);
    }

    /** Promise 10: over a bar of 0 a post comes on with none that has a road to it: the set of none */
    private static void broughtByNoneOverBar0() {
        LampNet x = Nets.chain(2);
        x.bar(1, 0);
        Check.due("it comes on at tick 1", x.when(0, 0, 1), 1);
        Check.due("by none", x.brought(0, 0, 1), 0);
        Check.due("by 0, which is on", x.brought(0, 1, 1), 1);
    }

    /** Promise 10: 'the set of them (one post, but by BARS)' */
    private static void broughtByOneButByBars() {
        LampNet x = Nets.posts(12);
        for (int p = 0; p < 11; p++) {
            x.road(p, 11, 1);
        }
        Check.due("by all eleven", x.brought(0, 2047, 11), 2047);
        Check.due("by the least", x.brought(1, 2047, 11), 1);
        Check.due("by the least", x.brought(2, 2047, 11), 1);
        Check.due("by all ten", x.brought(0, 2046, 11), 2046);
        Check.due("by the least of the seed", x.brought(1, 2046, 11), 2);
        Check.due("by the least of the seed", x.brought(2, 2046, 11), 2);
        Check.due("by the last one", x.brought(1, 1024, 11), 1024);
        // 0 and 1 have a road to 2, but 0 has one to 3, too: by FORCED 0 brings none on at TICK 1.
        LampNet two = Nets.posts(4);
        two.road(0, 2, 1);
        two.road(0, 3, 1);
        two.road(1, 2, 1);
        Check.due("by both", two.brought(0, 3, 2), 3);
        Check.due("by that behind which it is the only one", two.brought(1, 3, 2), 2);
        Check.due("by the least that it is behind", two.brought(2, 3, 2), 1);
    }

    /** BROUGHT: 'by FORCED (and by SEEN from TICK 2 on)' */
    private static void broughtBySeenFromTick2On() {
        LampNet x = Nets.posts(6);
        x.road(0, 1, 1);
        x.road(0, 2, 1);
        x.road(1, 3, 1);
        x.road(1, 4, 1);
        x.road(2, 3, 1);
        Check.due("seen at tick 1", x.when(2, 1, 2), 1);
        Check.due("by the seed", x.brought(2, 1, 2), 1);
        Check.due("forced at tick 2", x.when(2, 1, 3), 2);
        Check.due("by 2, as 1 has two off behind it", x.brought(2, 1, 3), 4);
        Check.due("forced at tick 3", x.when(2, 1, 4), 3);
        Check.due("by 1", x.brought(2, 1, 4), 2);
    }

    /** Promise 10: '-2 as of when()': the rule, the seed */
    private static void broughtRefusedAsWhen() {
        for (int rule : NO_RULES) {
            Check.due("brought by " + rule, Nets.path(3).brought(rule, 1, 0), -2);
            Check.due("brought by " + rule + ", no post", Nets.path(3).brought(rule, 1, 3), -2);
        }
        for (int rule = 0; rule < 3; rule++) {
            for (int set : noSets(3)) {
                Check.due("brought from " + set, Nets.path(3).brought(rule, set, 0), -2);
            }
            for (int set : noSets(12)) {
                Check.due("brought of 12 from " + set, Nets.path(12).brought(rule, set, 11), -2);
            }
            Check.due("brought from 0", Nets.path(3).brought(rule, 0, 0), -1);
            Check.due("brought from all", Nets.path(3).brought(rule, 7, 0), 0);
        }
    }

    /** Promise 10: '-2 as of when()': the post */
    private static void broughtOfNoPost() {
        for (int rule = 0; rule < 3; rule++) {
            for (int posts : new int[] {0, 1, 3, 12}) {
                for (int p : noPosts(posts)) {
                    Check.due("brought of " + p, Nets.path(posts).brought(rule, 0, p), -2);
                    Check.due("brought of " + p, Nets.path(posts).brought(rule, (1 << posts) - 1, p), -2);
                }
            }
            Check.due("brought of 11", Nets.path(12).brought(rule, 1, 11), 1024);
        }
    }
}
