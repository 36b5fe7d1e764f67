/** The edges that promises 21 and 22 name, each with a test of its own. */
public final class FireEdgesTest {
    public static void main(String[] args) {
        saveOfNoSet();
        saveOfMoreThan10();
        saveOfSet0();
        saveOfAllPosts();
        saveFrom0To9();
        wallOfNoSet();
        wallOfMoreThan10();
        wallFrom0On();
        wallWhenThereIsNoneSuch();
        wallAtTheTickAtWhichItStops();
        wallOfTheLesserPost();
        Check.end();
    }

    private static int[] noSets(int posts) {
        int one = 1 << posts;
        return new int[] {-1, Integer.MIN_VALUE, one, one + 1, 2 * one - 1, one | 1 << 30, Integer.MAX_VALUE};
    }

    /** Promise 21: '-2 when it is no set of posts' */
    private static void saveOfNoSet() {
        for (int posts : new int[] {0, 1, 3, 9, 10}) {
            for (int set : noSets(posts)) {
                Check.due("save " + set + " of " + posts, Nets.path(posts).save(set), -2);
            }
        }
        LampNet grows = Nets.posts(9);
        Check.due("one bit too large", grows.save(512), -2);
        grows.post();
        Check.due("now a set", grows.save(512), 9);
    }

    /** Promise 21: '-2 when .. there are more than 10 posts' */
    private static void saveOfMoreThan10() {
        LampNet x = Nets.posts(9);
        Check.due("nine", x.save(1), 8);
        x.post();
        Check.due("ten", x.save(1), 9);
        Check.due("ten, none burns", x.save(0), 10);
        Check.due("ten, all burn", x.save(1023), 0);
        for (int posts = 11; posts <= 12; posts++) {
            x.post();
            Check.due(posts + ", one burns", x.save(1), -2);
            Check.due(posts + ", none burns", x.save(0), -2);
            Check.due(posts + ", all burn", x.save((1 << posts) - 1), -2);
            Check.due(posts + ", no set either", x.save(1 << posts), -2);
            Check.due(posts + ", below 0 either", x.save(-1), -2);
        }
    }

    private static void saveOfSet0() {
        for (int posts = 0; posts <= 10; posts++) {
            Check.due("none of " + posts + " burns", Nets.complete(posts).save(0), posts);
        }
    }

    private static void saveOfAllPosts() {
        for (int posts = 0; posts <= 10; posts++) {
            Check.due("all of " + posts + " burn", Nets.complete(posts).save((1 << posts) - 1), 0);
        }
    }

    /** One wall among all roads, and nothing to fear without roads from the fire. */
    private static void saveFrom0To9() {
        Check.due("one wall", Nets.complete(10).save(1), 1);
        Check.due("all but the fire", Nets.posts(10).save(512), 9);
        Check.due("no road from the fire", Nets.chain(10).save(512), 9);
        Check.due("a wall right behind it", Nets.chain(10).save(1), 9);
        Check.due("one left, walled", Nets.complete(10).save(511), 1);
    }

    /** Promise 22: '-2 as of save()': no set of posts */
    private static void wallOfNoSet() {
        for (int posts : new int[] {0, 1, 3, 9, 10}) {
            for (int set : noSets(posts)) {
                Check.due("wall " + set + " of " + posts, Nets.path(posts).wall(set, 0), -2);
                Check.due("none such either", Nets.path(posts).wall(set, -1), -2);
                Check.due("none such either", Nets.path(posts).wall(set, 99), -2);
            }
        }
        LampNet grows = Nets.posts(9);
        Check.due("one bit too large", grows.wall(512, 0), -2);
        grows.post();
        Check.due("now a set", grows.wall(512, 0), 0);
    }

    /** Promise 22: '-2 as of save()': more than 10 posts */
    private static void wallOfMoreThan10() {
        LampNet x = Nets.posts(9);
        Check.due("nine", x.wall(1, 0), 1);
        x.post();
        Check.due("ten", x.wall(1, 0), 1);
        Check.due("ten, all but the last burn", x.wall(511, 0), 9);
        Check.due("ten, all burn", x.wall(1023, 0), -1);
        for (int posts = 11; posts <= 12; posts++) {
            x.post();
            Check.due(posts + ", one burns", x.wall(1, 0), -2);
            Check.due(posts + ", none burns", x.wall(0, 0), -2);
            Check.due(posts + ", all burn", x.wall((1 << posts) - 1, 0), -2);
            Check.due(posts + ", none such either", x.wall(1, 99), -2);
            Check.due(posts + ", below 0 either", x.wall(1, -1), -2);
            Check.due(posts + ", no set either", x.wall(1 << posts, 0), -2);
        }
    }

    /** Promise 22: 'The i-th of THE WALLS, from 0 on' */
    private static void wallFrom0On() {
        LampNet x = Nets.path(10);
        Check.due("the first", x.wall(16, 0), 3);
        Check.due("the second", x.wall(16, 1), 6);
        Check.due("no third", x.wall(16, 2), -1);
        LampNet last = Nets.posts(10);
        Check.due("the last post", last.wall(511, 0), 9);
    }

    /** Promise 22: '-1 when there is none such' */
    private static void wallWhenThereIsNoneSuch() {
        Check.due("without posts", new LampNet().wall(0, 0), -1);
        Check.due("without posts, -1", new LampNet().wall(0, -1), -1);
        Check.due("the only one burns", Nets.posts(1).wall(1, 0), -1);
        Check.due("all ten burn", Nets.complete(10).wall(1023, 0), -1);
        Check.due("below 0", Nets.posts(10).wall(1, -1), -1);
        Check.due("the least", Nets.posts(10).wall(1, Integer.MIN_VALUE), -1);
        Check.due("the greatest", Nets.posts(10).wall(1, Integer.MAX_VALUE), -1);
        Check.due("one a post too many", Nets.posts(10).wall(1, 10), -1);
        Check.due("none behind the last", Nets.complete(10).wall(1, 1), -1);
    }

    /** 'up to the TICK at which it stops': that tick's own wall is one of them, though none would burn */
    private static void wallAtTheTickAtWhichItStops() {
        Check.due("none burns, one is walled", Nets.posts(10).wall(0, 0), 0);
        Check.due("it has stopped", Nets.posts(10).wall(0, 1), -1);
        Check.due("no roads, one is walled", Nets.posts(3).wall(1, 0), 1);
        Check.due("it has stopped", Nets.posts(3).wall(1, 1), -1);
        // 0 burns behind the first wall, and no more could burn then: yet the next tick walls one, the least.
        LampNet x = fork();
        Check.due("2 first", x.wall(2, 0), 2);
        Check.due("3 at the tick at which it stops", x.wall(2, 1), 3);
        Check.due("it has stopped", x.wall(2, 2), -1);
    }

    /** Post 1 has roads to 0 and 2, and 2 to 3 and 4, all both ways. */
    private static LampNet fork() {
        LampNet x = Nets.path(4);
        x.post();
        x.road(2, 4, 1);
        x.road(4, 2, 1);
        return x;
    }

    /** 'the one with the lesser post where they first differ' */
    private static void wallOfTheLesserPost() {
        LampNet x = Nets.complete(10);
        Check.due("the least that does not burn", x.wall(1, 0), 1);
        Check.due("the least that does not burn", x.wall(2, 0), 0);
        Check.due("the least that does not burn", x.wall(3, 0), 2);
        Check.due("either arm saves three in all", Nets.path(5).wall(4, 0), 1);
        Check.due("either arm saves four in all", Nets.path(6).wall(4, 0), 1);
        Check.due("the one that saves more, though the greater post", fork().wall(2, 0), 2);
    }
}
