/** The edges that promises 26 and 27 name, each with a test of its own. */
public final class GameEdgesTest {
    private static final int[] NO_RULES = {-1, 3, 4, Integer.MIN_VALUE, Integer.MAX_VALUE};

    public static void main(String[] args) {
        winOfNoRule();
        winOfNoSet();
        winWithAllOn();
        winWithNoneOn();
        winWithoutATickAhead();
        winWithAllThatIsOnAsTheSeed();
        firstOfNoRule();
        firstOfNoSet();
        firstIsTheLeast();
        firstWhenThereIsNone();
        firstWithoutATickAhead();
        Check.end();
    }

    private static int[] noSets(int posts) {
        int one = 1 << posts;
        return new int[] {-1, Integer.MIN_VALUE, one, one + 1, 2 * one - 1, one | 1 << 30, Integer.MAX_VALUE};
    }

    /** Promise 26: '-2 as of go()': the rule */
    private static void winOfNoRule() {
        for (int rule : NO_RULES) {
            Check.due("win by " + rule, Nets.path(3).win(rule, 0), -2);
            Check.due("all on", Nets.path(12).win(rule, 4095), -2);
            Check.due("without posts", new LampNet().win(rule, 0), -2);
            Check.due("no set either", Nets.path(3).win(rule, 8), -2);
        }
        for (int rule = 0; rule < 3; rule++) {
            Check.due("win by " + rule, Nets.posts(3).win(rule, 0), 1);
        }
    }

    /** Promise 26: '-2 as of go()': the set */
    private static void winOfNoSet() {
        for (int rule = 0; rule < 3; rule++) {
            for (int posts : new int[] {0, 1, 3, 11, 12}) {
                for (int set : noSets(posts)) {
                    Check.due("win " + set + " of " + posts, Nets.path(posts).win(rule, set), -2);
                }
            }
            LampNet grows = Nets.posts(11);
            Check.due("one bit too large", grows.win(rule, 2048), -2);
            grows.post();
            Check.due("now a set", grows.win(rule, 2048), 1);
        }
    }

    private static void winWithAllOn() {
        for (int rule = 0; rule < 3; rule++) {
            Check.due("without posts", new LampNet().win(rule, 0), 0);
            for (int posts = 1; posts <= 12; posts++) {
                Check.due("all of " + posts, Nets.posts(posts).win(rule, (1 << posts) - 1), 0);
                Check.due("all but the last", Nets.posts(posts).win(rule, (1 << posts - 1) - 1), 1);
            }
        }
    }

    /** Without roads each puts one: who is first wins with an odd number of posts. */
    private static void winWithNoneOn() {
        for (int rule = 0; rule < 3; rule++) {
            for (int posts = 0; posts <= 12; posts++) {
                Check.due("none of " + posts, Nets.posts(posts).win(rule, 0), posts % 2);
            }
        }
    }

    /** '(It goes on from the set as it is, without a RULE's TICK ahead.)' */
    private static void winWithoutATickAhead() {
        LampNet x = Nets.chain(2);
        for (int rule = 0; rule < 3; rule++) {
            Check.due("the rule alone has all on", x.go(rule, 1), 3);
            Check.due("but there is one to put", x.win(rule, 1), 1);
        }
        LampNet zero = Nets.posts(12);
        for (int p = 0; p < 12; p++) {
            zero.bar(p, 0);
        }
        Check.due("the rule alone has all on", zero.go(0, 0), 4095);
        Check.due("but there is one to put", zero.win(0, 0), 1);
    }

    /** '(SEEN: with what is ON as the SEED)' */
    private static void winWithAllThatIsOnAsTheSeed() {
        LampNet x = Nets.posts(4);
        x.road(0, 1, 1);
        x.road(0, 2, 1);
        // 3 put with 0 on: 0 is of the seed and sees 1 and 2, while by FORCED it sees two and forces none.
        Check.due("by SEEN", x.win(2, 1), 1);
        Check.due("by SEEN", x.first(2, 1), 3);
        Check.due("by FORCED", x.win(1, 1), 0);
    }

    /** Promise 27: '-2 as of go()': the rule */
    private static void firstOfNoRule() {
        for (int rule : NO_RULES) {
            Check.due("first by " + rule, Nets.path(3).first(rule, 0), -2);
            Check.due("all on", Nets.path(12).first(rule, 4095), -2);
            Check.due("without posts", new LampNet().first(rule, 0), -2);
            Check.due("no set either", Nets.path(3).first(rule, 8), -2);
        }
        for (int rule = 0; rule < 3; rule++) {
            Check.due("first by " + rule, Nets.posts(3).first(rule, 0), 0);
        }
    }

    /** Promise 27: '-2 as of go()': the set */
    private static void firstOfNoSet() {
        for (int rule = 0; rule < 3; rule++) {
            for (int posts : new int[] {0, 1, 3, 11, 12}) {
                for (int set : noSets(posts)) {
                    Check.due("first " + set + " of " + posts, Nets.path(posts).first(rule, set), -2);
                }
            }
            LampNet grows = Nets.posts(11);
            Check.due("one bit too large", grows.first(rule, 2048), -2);
            grows.post();
            Check.due("now a set", grows.first(rule, 2048), 0);
        }
    }

    /** 'The least post by which who is to put wins' */
    private static void firstIsTheLeast() {
        for (int rule = 0; rule < 3; rule++) {
            LampNet x = Nets.posts(12);
            Check.due("of eleven that are off", x.first(rule, 2048), 0);
            Check.due("of eleven others", x.first(rule, 1), 1);
            Check.due("the last one", x.first(rule, 2047), 11);
            Check.due("the first one", x.first(rule, 4094), 0);
        }
        LampNet back = Nets.posts(2);
        back.road(1, 0, 1);
        Check.due("0 would leave 1 to the other", back.first(0, 0), 1);
    }

    /** '-1 when there is none' */
    private static void firstWhenThereIsNone() {
        for (int rule = 0; rule < 3; rule++) {
            Check.due("without posts", new LampNet().first(rule, 0), -1);
            Check.due("all of one", Nets.posts(1).first(rule, 1), -1);
            Check.due("all of twelve", Nets.complete(12).first(rule, 4095), -1);
            Check.due("two to put", Nets.posts(2).first(rule, 0), -1);
            Check.due("twelve to put", Nets.posts(12).first(rule, 0), -1);
        }
    }

    private static void firstWithoutATickAhead() {
        LampNet x = Nets.chain(2);
        for (int rule = 0; rule < 3; rule++) {
            Check.due("there is one to put", x.first(rule, 1), 1);
        }
        LampNet zero = Nets.posts(12);
        for (int p = 0; p < 12; p++) {
            zero.bar(p, 0);
        }
        Check.due("any has all on", zero.first(0, 0), 0);
        Check.due("the last one", zero.first(0, 2047), 11);
    }
}
