/** The edges that promises 23 to 25 name, each with a test of its own. */
public final class GuardsEdgesTest {
    public static void main(String[] args) {
        holdsOfNoSet();
        holdsOfSet0();
        holdsOfAllPosts();
        holdsByTheWayOfTheRoad();
        holdsForEver();
        guardsWithoutPosts();
        guardsFrom1To12();
        answerOfNoSet();
        answerOfNoPost();
        answerWhereOneStands();
        answerOfASetThatDoesNotHold();
        answerByTheLeast();
        answerSoThatItHoldsStill();
        Check.end();
    }

    private static int[] noSets(int posts) {
        int one = 1 << posts;
        return new int[] {-1, Integer.MIN_VALUE, one, one + 1, 2 * one - 1, one | 1 << 30, Integer.MAX_VALUE};
    }

    private static int[] noPosts(int posts) {
        return new int[] {-1, posts, posts + 1, 12, 32, 33, Integer.MIN_VALUE, Integer.MAX_VALUE};
    }

    /** Promise 23: '-2 when it is no set of posts' */
    private static void holdsOfNoSet() {
        for (int posts : new int[] {0, 1, 3, 11, 12}) {
            for (int set : noSets(posts)) {
                Check.due("holds " + set + " of " + posts, Nets.complete(posts).holds(set), -2);
            }
        }
        LampNet grows = Nets.complete(11);
        Check.due("one bit too large", grows.holds(2048 + 1), -2);
        grows.post();
        Check.due("now a set", grows.holds(2048 + 1), 1);
    }

    /** 0 is a set: without posts it holds, and with one it does not. */
    private static void holdsOfSet0() {
        Check.due("without posts", new LampNet().holds(0), 1);
        for (int posts = 1; posts <= 12; posts++) {
            Check.due("none on " + posts, Nets.complete(posts).holds(0), 0);
        }
    }

    private static void holdsOfAllPosts() {
        for (int posts = 1; posts <= 12; posts++) {
            Check.due("one on each of " + posts, Nets.posts(posts).holds((1 << posts) - 1), 1);
            Check.due("all but the last of " + posts, Nets.posts(posts).holds((1 << posts - 1) - 1), 0);
        }
    }

    private static void holdsByTheWayOfTheRoad() {
        LampNet x = Nets.posts(2);
        x.road(1, 0, 9);
        Check.due("0 cannot go to 1", x.holds(1), 0);
        Check.due("1 can go to 0, but not back", x.holds(2), 0);
        x.road(0, 1, 1);
        Check.due("to and fro", x.holds(1), 1);
        Check.due("to and fro", x.holds(2), 1);
    }

    /** '(for ever)': in a ring of one way each strike can be answered but a few times */
    private static void holdsForEver() {
        LampNet x = Nets.chain(12);
        Check.due("each can be answered once", x.holds(4094), 0);
        Check.due("all others ahead of the last", x.holds(2047), 0);
        x.road(11, 0, 1);
        Check.due("round the ring", x.holds(2047), 1);
        Check.due("each second one", x.holds(1365), 0);
        Check.due("path of 5: twice, but not for ever", Nets.path(5).holds(10), 0);
    }

    /** Promise 24: '(0 without posts)' */
    private static void guardsWithoutPosts() {
        LampNet x = new LampNet();
        Check.due("without posts", x.guards(), 0);
        x.post();
        Check.due("with one", x.guards(), 1);
    }

    private static void guardsFrom1To12() {
        for (int posts = 1; posts <= 12; posts++) {
            Check.due("no roads, " + posts, Nets.posts(posts).guards(), posts);
            Check.due("all roads, " + posts, Nets.complete(posts).guards(), 1);
        }
    }

    /** Promise 25: '-2 when it is no set of posts' */
    private static void answerOfNoSet() {
        for (int posts : new int[] {1, 3, 11, 12}) {
            for (int set : noSets(posts)) {
                Check.due("answer " + set + " of " + posts, Nets.complete(posts).answer(set, 0), -2);
                Check.due("no post either", Nets.complete(posts).answer(set, posts), -2);
                Check.due("no post either", Nets.complete(posts).answer(set, -1), -2);
            }
        }
        LampNet grows = Nets.complete(11);
        Check.due("one bit too large", grows.answer(2048 + 2, 0), -2);
        grows.post();
        Check.due("now a set", grows.answer(2048 + 2, 0), 1);
    }

    /** Promise 25: '-2 when .. there is no such post' */
    private static void answerOfNoPost() {
        for (int posts : new int[] {0, 1, 3, 12}) {
            for (int p : noPosts(posts)) {
                Check.due("answer " + p, Nets.complete(posts).answer((1 << posts) - 1, p), -2);
                Check.due("answer " + p + " of what does not hold", Nets.posts(posts).answer(0, p), -2);
            }
        }
        Check.due("the last post", Nets.complete(12).answer(1, 11), 0);
    }

    /** Promise 25: '-1 when one stands there' */
    private static void answerWhereOneStands() {
        LampNet x = Nets.complete(12);
        for (int p = 0; p < 12; p++) {
            Check.due("the only one", x.answer(1 << p, p), -1);
            Check.due("one on each", x.answer(4095, p), -1);
        }
        Check.due("next to it", x.answer(1, 1), 0);
    }

    /** Promise 25: '-1 when .. the set does not hold' */
    private static void answerOfASetThatDoesNotHold() {
        Check.due("none", Nets.complete(12).answer(0, 0), -1);
        Check.due("out of reach", Nets.posts(12).answer(2047, 11), -1);
        LampNet x = Nets.path(5);
        Check.due("it could be answered now", x.answer(10, 0), -1);
        Check.due("to what holds, but it does not itself", x.answer(7, 3), -1);
        Check.due("one stands there, too", x.answer(10, 1), -1);
    }

    /** Promise 25: 'The least post of a set' */
    private static void answerByTheLeast() {
        LampNet x = Nets.complete(12);
        Check.due("of two", x.answer(3072, 0), 10);
        Check.due("of eleven", x.answer(4094, 0), 1);
        Check.due("of eleven", x.answer(2047, 11), 0);
        Check.due("the last", x.answer(2048, 0), 11);
        x.road(0, 5, 0);
        Check.due("the least with a road to it", x.answer(3, 5), 1);
    }

    /** Promise 25: 'so that it HOLDS still' */
    private static void answerSoThatItHoldsStill() {
        LampNet x = Nets.path(5);
        Check.due("by 1 post 0 would be lost", x.answer(26, 2), 3);
        Check.due("by 3 nothing is lost", x.holds(22), 1);
        Check.due("by 1 it would not hold", x.holds(28), 0);
    }
}
