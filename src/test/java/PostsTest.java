/** Promises 1 to 6 and 28: a new object, post, road, bar, price, of, count. */
public final class PostsTest {
    private static final int[] NO_POSTS_OF_THREE = {-1, 3, 12, 31, 32, Integer.MIN_VALUE, Integer.MAX_VALUE};

    public static void main(String[] args) {
        newObject();
        post();
        road();
        bar();
        price();
        of();
        Check.end();
    }

    private static void newObject() {
        LampNet x = new LampNet();
        Check.due("count of a new object", x.count(), 0);
        Check.due("of without posts", x.of(0, 0), -2);
        Check.due("road without posts", x.road(0, 1, 1), -2);
        Check.due("bar without posts", x.bar(0, 1), -2);
        Check.due("price without posts", x.price(0, 1), -2);
        Check.due("go without posts", x.go(0, 0), 0);
        Check.due("go of no set", x.go(0, 1), -2);
    }

    private static void post() {
        LampNet x = new LampNet();
        for (int p = 0; p < 12; p++) {
            Check.due("post", x.post(), p);
            Check.due("count", x.count(), p + 1);
            Check.due("first bar", x.of(p, 0), 1);
            Check.due("first price", x.of(p, 1), 1);
            Check.due("first behind", x.of(p, 2), 0);
            Check.due("first ahead", x.of(p, 3), 0);
        }
        Check.due("a 13th post", x.post(), -2);
        Check.due("a 13th post again", x.post(), -2);
        Check.due("count", x.count(), 12);
        Check.due("of post 11", x.of(11, 0), 1);
        Check.due("of post 12", x.of(12, 0), -2);
        Check.due("road at the edge", x.road(11, 0, 9), 0);
        Check.due("its far end", x.of(0, 3), 1 << 11);
    }

    private static void road() {
        LampNet x = Nets.posts(3);
        Check.due("a new road", x.road(0, 2, 1), 0);
        Check.due("the other way", x.road(2, 0, 9), 0);
        Check.due("weight 1 to 9", x.road(0, 2, 9), 1);
        Check.due("weight 9 to 4", x.road(0, 2, 4), 9);
        for (int p : NO_POSTS_OF_THREE) {
            Check.due("road from " + p, x.road(p, 1, 1), -2);
            Check.due("road to " + p, x.road(1, p, 1), -2);
        }
        Check.due("road to itself", x.road(1, 1, 1), -2);
        Check.due("no road to itself", x.road(1, 1, 0), -2);
        Check.due("weight -1", x.road(0, 2, -1), -2);
        Check.due("weight 10", x.road(0, 2, 10), -2);
        Check.due("weight least", x.road(0, 2, Integer.MIN_VALUE), -2);
        Check.due("behind 0", x.of(0, 2), 4);
        Check.due("road is no more", x.road(0, 2, 0), 4);
        Check.due("behind 0 is none", x.of(0, 2), 0);
        Check.due("0 is behind 2 still", x.of(0, 3), 4);
        Check.due("none was there", x.road(0, 2, 0), 0);
        Check.due("none was there again", x.road(0, 2, 3), 0);
    }

    private static void bar() {
        LampNet x = Nets.posts(3);
        Check.due("bar was 1", x.bar(2, 0), 1);
        Check.due("bar was 0", x.bar(2, 99), 0);
        Check.due("bar -1", x.bar(2, -1), -2);
        Check.due("bar 100", x.bar(2, 100), -2);
        for (int p : NO_POSTS_OF_THREE) {
            Check.due("bar of " + p, x.bar(p, 1), -2);
        }
        Check.due("bar is 99", x.of(2, 0), 99);
        Check.due("another's bar", x.of(1, 0), 1);
    }

    private static void price() {
        LampNet x = Nets.posts(3);
        Check.due("price was 1", x.price(2, 0), 1);
        Check.due("price was 0", x.price(2, 1000), 0);
        Check.due("price -1", x.price(2, -1), -2);
        Check.due("price 1001", x.price(2, 1001), -2);
        for (int p : NO_POSTS_OF_THREE) {
            Check.due("price of " + p, x.price(p, 1), -2);
        }
        Check.due("price is 1000", x.of(2, 1), 1000);
        Check.due("another's price", x.of(1, 1), 1);
        Check.due("bar stays", x.of(2, 0), 1);
    }

    private static void of() {
        LampNet x = Nets.posts(3);
        x.bar(1, 7);
        x.price(1, 8);
        x.road(1, 0, 2);
        x.road(1, 2, 3);
        x.road(2, 1, 4);
        Check.due("of bar", x.of(1, 0), 7);
        Check.due("of price", x.of(1, 1), 8);
        Check.due("those behind 1", x.of(1, 2), 5);
        Check.due("those that 1 is behind", x.of(1, 3), 4);
        Check.due("those behind 0", x.of(0, 2), 0);
        Check.due("those that 0 is behind", x.of(0, 3), 2);
        Check.due("what -1", x.of(1, -1), -2);
        Check.due("what 4", x.of(1, 4), -2);
        for (int p : NO_POSTS_OF_THREE) {
            Check.due("of " + p, x.of(p, 0), -2);
            Check.due("of " + p, x.of(p, 3), -2);
        }
    }
}
