/** The edges that promises 11 to 13 name, each with a test of its own. */
public final class FortsEdgesTest {
    private static final int[] NO_RULES_OF_FORTS = {-1, 2, 3, Integer.MIN_VALUE, Integer.MAX_VALUE};

    public static void main(String[] args) {
        fortOfRule0Or1();
        fortOfNoSet();
        fortOfSet0();
        fortOfAllPosts();
        fortAtTheBar();
        fortOfTwoOffBehindOne();
        fortsOfRule0Or1();
        fortsFrom0On();
        fortsWhenThereIsNoneSuch();
        fortsBelow0();
        fortsByNumbersOfPosts();
        fortsLeastAlone();
        apartOfRule0Or1();
        apartFrom0To12();
        Check.end();
    }

    /** Promise 11: '-2 when rule is not 0 or 1' */
    private static void fortOfRule0Or1() {
        for (int rule : NO_RULES_OF_FORTS) {
            Check.due("fort by " + rule, Nets.posts(3).fort(rule, 1), -2);
            Check.due("fort of none by " + rule, Nets.posts(3).fort(rule, 0), -2);
            Check.due("fort of no set by " + rule, Nets.posts(3).fort(rule, 8), -2);
            Check.due("fort by " + rule + " without posts", new LampNet().fort(rule, 0), -2);
        }
        Check.due("fort by 0", Nets.posts(3).fort(0, 1), 1);
        Check.due("fort by 1", Nets.posts(3).fort(1, 1), 1);
    }

    /** Promise 11: '-2 when .. it is no set of posts' */
    private static void fortOfNoSet() {
        for (int rule = 0; rule < 2; rule++) {
            for (int posts : new int[] {0, 1, 3, 11, 12}) {
                int one = 1 << posts;
                int[] noSets = {-1, Integer.MIN_VALUE, one, one + 1, one | 1 << 30, Integer.MAX_VALUE};
                for (int set : noSets) {
                    Check.due("fort " + set + " of " + posts, Nets.posts(posts).fort(rule, set), -2);
                }
            }
            LampNet grows = Nets.posts(11);
            Check.due("one bit too large", grows.fort(rule, 2048), -2);
            grows.post();
            Check.due("now a set", grows.fort(rule, 2048), 1);
        }
    }

    /** A fort has one post or more, yet 0 is a set. */
    private static void fortOfSet0() {
        for (int rule = 0; rule < 2; rule++) {
            for (int posts : new int[] {0, 1, 3, 12}) {
                Check.due("fort of none", Nets.posts(posts).fort(rule, 0), 0);
            }
        }
    }

    /** With all posts off there is none that could bring one on, but for a bar of 0. */
    private static void fortOfAllPosts() {
        for (int rule = 0; rule < 2; rule++) {
            Check.due("all of one", Nets.posts(1).fort(rule, 1), 1);
            Check.due("all of twelve", Nets.complete(12).fort(rule, 4095), 1);
        }
        LampNet x = Nets.complete(12);
        x.bar(11, 0);
        Check.due("a bar of 0", x.fort(0, 4095), 0);
        Check.due("no bar by FORCED", x.fort(1, 4095), 1);
    }

    private static void fortAtTheBar() {
        LampNet x = Nets.posts(12);
        for (int p = 0; p < 11; p++) {
            x.road(p, 11, 9);
        }
        x.bar(11, 99);
        Check.due("99 of 99", x.fort(0, 2048), 0);
        x.road(0, 11, 8);
        Check.due("98 of 99", x.fort(0, 2048), 1);
        x.bar(11, 98);
        Check.due("98 of 98", x.fort(0, 2048), 0);
    }

    private static void fortOfTwoOffBehindOne() {
        LampNet x = Nets.posts(3);
        x.road(2, 0, 1);
        Check.due("one off behind 2", x.fort(1, 1), 0);
        Check.due("one off behind 2 of two", x.fort(1, 3), 0);
        x.road(2, 1, 1);
        Check.due("two off behind 2", x.fort(1, 3), 1);
        Check.due("2 is off itself", x.fort(1, 5), 1);
        Check.due("none off behind another one", x.fort(1, 4), 1);
    }

    /** Promise 12: '-2 when rule is not 0 or 1' */
    private static void fortsOfRule0Or1() {
        for (int rule : NO_RULES_OF_FORTS) {
            Check.due("forts by " + rule, Nets.posts(3).forts(rule, 0), -2);
            Check.due("forts by " + rule + ", none such", Nets.posts(3).forts(rule, 3), -2);
            Check.due("forts by " + rule + ", below 0", Nets.posts(3).forts(rule, -1), -2);
            Check.due("forts by " + rule + " without posts", new LampNet().forts(rule, 0), -2);
        }
        Check.due("forts by 0", Nets.posts(3).forts(0, 0), 1);
        Check.due("forts by 1", Nets.posts(3).forts(1, 0), 1);
    }

    /** Promise 12: 'The k-th LEAST FORT, from 0 on' */
    private static void fortsFrom0On() {
        for (int rule = 0; rule < 2; rule++) {
            LampNet x = Nets.posts(12);
            Check.due("the first", x.forts(rule, 0), 1);
            Check.due("the second", x.forts(rule, 1), 2);
            Check.due("the last", x.forts(rule, 11), 2048);
            Check.due("behind the last", x.forts(rule, 12), -1);
        }
    }

    /** Promise 12: '-1 when there is none such' */
    private static void fortsWhenThereIsNoneSuch() {
        for (int rule = 0; rule < 2; rule++) {
            Check.due("no posts", new LampNet().forts(rule, 0), -1);
            Check.due("one of one", Nets.posts(1).forts(rule, 0), 1);
            Check.due("behind it", Nets.posts(1).forts(rule, 1), -1);
            Check.due("a great k", Nets.posts(12).forts(rule, 4096), -1);
            Check.due("the greatest k", Nets.posts(12).forts(rule, Integer.MAX_VALUE), -1);
        }
        LampNet none = Nets.posts(2);
        none.bar(0, 0);
        none.bar(1, 0);
        Check.due("no forts at all", none.forts(0, 0), -1);
    }

    /** Promise 12: '-2 when .. k is below 0' */
    private static void fortsBelow0() {
        for (int rule = 0; rule < 2; rule++) {
            Check.due("k -1", Nets.posts(12).forts(rule, -1), -2);
            Check.due("the least k", Nets.posts(12).forts(rule, Integer.MIN_VALUE), -2);
            Check.due("k -1 without posts", new LampNet().forts(rule, -1), -2);
        }
    }

    /** Promise 12: 'by rising numbers of posts, then the LESSER first' */
    private static void fortsByNumbersOfPosts() {
        LampNet x = Nets.path(2);
        x.post();
        x.post();
        // {0, 1} is 3 and less than {3}, which is 8, but has more posts.
        Check.due("of one post", x.forts(0, 0), 4);
        Check.due("of one post", x.forts(0, 1), 8);
        Check.due("of two posts", x.forts(0, 2), 3);
        Check.due("no more", x.forts(0, 3), -1);
    }

    /** 'It is LEAST if no other FORT is a part of it.' */
    private static void fortsLeastAlone() {
        LampNet x = Nets.posts(2);
        Check.due("a fort", x.fort(0, 3), 1);
        Check.due("whose parts are forts", x.forts(0, 2), -1);
        // The part that is a fort has two posts fewer: {0} within {0, 1, 2}.
        LampNet far = Nets.posts(3);
        far.road(1, 2, 1);
        far.road(2, 1, 1);
        far.road(0, 1, 1);
        Check.due("a fort", far.fort(0, 7), 1);
        Check.due("its part", far.forts(0, 0), 1);
        Check.due("no more", far.forts(0, 1), -1);
    }

    /** Promise 13: '-2 when rule is not 0 or 1' */
    private static void apartOfRule0Or1() {
        for (int rule : NO_RULES_OF_FORTS) {
            Check.due("apart by " + rule, Nets.posts(3).apart(rule), -2);
            Check.due("apart by " + rule + " without posts", new LampNet().apart(rule), -2);
            Check.due("apart by " + rule + " of twelve", Nets.posts(12).apart(rule), -2);
        }
    }

    /** Promise 13: as few and as many as there can be */
    private static void apartFrom0To12() {
        for (int rule = 0; rule < 2; rule++) {
            for (int posts = 0; posts <= 12; posts++) {
                Check.due("apart of " + posts, Nets.posts(posts).apart(rule), posts);
            }
            Check.due("the one fort of two", Nets.path(2).apart(rule), 1);
        }
        LampNet none = Nets.posts(12);
        for (int p = 0; p < 12; p++) {
            none.bar(p, 0);
        }
        Check.due("no forts at all", none.apart(0), 0);
        // {0, 1}, {0, 2}, {1, 2} by FORCED: each two of them share a post.
        Check.due("no two apart", Nets.complete(3).apart(1), 1);
    }
}
