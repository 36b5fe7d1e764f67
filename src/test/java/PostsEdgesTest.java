/** The edges that promises 1 to 6 and 28 name, each with a test of its own. */
public final class PostsEdgesTest {
    private static final int LEAST = Integer.MIN_VALUE;
    private static final int GREATEST = Integer.MAX_VALUE;

    public static void main(String[] args) {
        newObjectHasNoPosts();
        postRefusedWhenThereAre12();
        newPostIsBare();
        roadTellsWhatItHad();
        roadIsNoMore();
        roadFromNoPost();
        roadToNoPost();
        roadToTheSame();
        roadWeightNot0To9();
        roadWithTwoWrong();
        barTellsWhatItWas();
        barOfNoPost();
        barNot0To99();
        priceTellsWhatItWas();
        priceOfNoPost();
        priceNot0To1000();
        ofEach();
        ofNoPost();
        ofNoWhat();
        countFrom0To12();
        Check.end();
    }

    private static int[] noPosts(int posts) {
        return new int[] {-1, LEAST, LEAST + 1, posts, posts + 1, 12, 31, 32, 64, GREATEST};
    }

    /** Promise 1: 'No posts.' */
    private static void newObjectHasNoPosts() {
        LampNet x = new LampNet();
        Check.due("count", x.count(), 0);
        Check.due("no post 0", x.of(0, 0), -2);
        Check.due("no road", x.road(0, 1, 1), -2);
        Check.due("no bar", x.bar(0, 1), -2);
        Check.due("no price", x.price(0, 1), -2);
        for (int rule = 0; rule < 3; rule++) {
            Check.due("set 0", x.go(rule, 0), 0);
            Check.due("set 1", x.go(rule, 1), -2);
            Check.due("no post comes on", x.when(rule, 0, 0), -2);
            Check.due("no post is brought on", x.brought(rule, 0, 0), -2);
        }
        Check.due("no strike", x.answer(0, 0), -2);
        Check.due("count", x.count(), 0);
        Check.due("another object has its own posts", Nets.posts(3).count() + new LampNet().count(), 3);
    }

    /** Promise 2: '-2 when there are 12.' */
    private static void postRefusedWhenThereAre12() {
        LampNet x = Nets.posts(10);
        Check.due("the 11th", x.post(), 10);
        Check.due("the 12th", x.post(), 11);
        Check.due("a 13th", x.post(), -2);
        Check.due("a 13th again", x.post(), -2);
        Check.due("count", x.count(), 12);
        Check.due("the 12th is there", x.of(11, 0), 1);
        Check.due("there is no 13th", x.of(12, 0), -2);
    }

    /** Promise 2: a new post has no roads, and the others keep theirs. */
    private static void newPostIsBare() {
        LampNet x = Nets.complete(11);
        x.bar(10, 99);
        x.price(10, 1000);
        Check.due("the 12th", x.post(), 11);
        Check.due("its bar", x.of(11, 0), 1);
        Check.due("its price", x.of(11, 1), 1);
        Check.due("behind it", x.of(11, 2), 0);
        Check.due("it is behind", x.of(11, 3), 0);
        Check.due("the others", x.of(0, 2), 2046);
        Check.due("another's bar", x.of(10, 0), 99);
        Check.due("another's price", x.of(10, 1), 1000);
    }

    /** Promise 3: 'what it had', 0 when there was none */
    private static void roadTellsWhatItHad() {
        LampNet x = Nets.posts(12);
        Check.due("none yet", x.road(0, 11, 1), 0);
        Check.due("1", x.road(0, 11, 9), 1);
        Check.due("9", x.road(0, 11, 9), 9);
        Check.due("the other way", x.road(11, 0, 5), 0);
        Check.due("9 still", x.road(0, 11, 1), 9);
        Check.due("5", x.road(11, 0, 5), 5);
        Check.due("between the middle ones", x.road(5, 6, 2), 0);
    }

    /** Promise 3: 'or is no more (0)' */
    private static void roadIsNoMore() {
        LampNet x = Nets.posts(12);
        Check.due("none to take away", x.road(0, 11, 0), 0);
        x.road(0, 11, 7);
        x.road(11, 0, 8);
        Check.due("taken away", x.road(0, 11, 0), 7);
        Check.due("none is behind 0", x.of(0, 2), 0);
        Check.due("11 is behind none", x.of(11, 3), 0);
        Check.due("the other way stays", x.of(11, 2), 1);
        Check.due("taken away again", x.road(0, 11, 0), 0);
        Check.due("laid anew", x.road(0, 11, 3), 0);
        Check.due("behind 0", x.of(0, 2), 2048);
    }

    /** Promise 3: '-2 when a .. is no post' */
    private static void roadFromNoPost() {
        LampNet x = Nets.posts(3);
        Check.due("from the last post", x.road(2, 0, 1), 0);
        for (int a : noPosts(3)) {
            Check.due("from " + a, x.road(a, 0, 1), -2);
            Check.due("none from " + a, x.road(a, 0, 0), -2);
        }
        Check.due("to 0", x.of(0, 3), 4);
        LampNet twelve = Nets.posts(12);
        Check.due("from 11", twelve.road(11, 0, 1), 0);
        Check.due("from 12", twelve.road(12, 0, 1), -2);
        Check.due("to 0", twelve.of(0, 3), 2048);
    }

    /** Promise 3: '-2 when .. b is no post' */
    private static void roadToNoPost() {
        LampNet x = Nets.posts(3);
        Check.due("to the last post", x.road(0, 2, 1), 0);
        for (int b : noPosts(3)) {
            Check.due("to " + b, x.road(0, b, 1), -2);
            Check.due("none to " + b, x.road(0, b, 0), -2);
        }
        Check.due("from 0", x.of(0, 2), 4);
        LampNet twelve = Nets.posts(12);
        Check.due("to 11", twelve.road(0, 11, 1), 0);
        Check.due("to 12", twelve.road(0, 12, 1), -2);
        Check.due("from 0", twelve.of(0, 2), 2048);
    }

    /** Promise 3: '-2 when .. they are the same' */
    private static void roadToTheSame() {
        LampNet x = Nets.posts(12);
        for (int p : new int[] {0, 5, 11}) {
            for (int weight = 0; weight <= 9; weight++) {
                Check.due("to itself", x.road(p, p, weight), -2);
            }
            Check.due("behind itself", x.of(p, 2), 0);
            Check.due("behind itself", x.of(p, 3), 0);
        }
    }

    /** Promise 3: '-2 when .. the weight is not 0..9' */
    private static void roadWeightNot0To9() {
        LampNet x = Nets.posts(2);
        Check.due("weight 9", x.road(0, 1, 9), 0);
        for (int weight : new int[] {10, 11, 100, GREATEST, -1, -9, LEAST, LEAST + 9, 256, 265}) {
            Check.due("weight " + weight, x.road(0, 1, weight), -2);
        }
        Check.due("9 still", x.road(0, 1, 0), 9);
        Check.due("weight -1 where there is none", x.road(0, 1, -1), -2);
        Check.due("weight 10 where there is none", x.road(0, 1, 10), -2);
        Check.due("none still", x.of(0, 2), 0);
        Check.due("weight 1", x.road(0, 1, 1), 0);
    }

    private static void roadWithTwoWrong() {
        LampNet x = Nets.path(3);
        Check.due("both no posts", x.road(-1, 3, 1), -2);
        Check.due("both the same, no post", x.road(3, 3, 1), -2);
        Check.due("both the same, below 0", x.road(-1, -1, 0), -2);
        Check.due("the same and no weight", x.road(1, 1, 10), -2);
        Check.due("no post and no weight", x.road(0, 3, -1), -2);
        Check.due("all wrong", x.road(LEAST, GREATEST, GREATEST), -2);
        Check.due("behind 1", x.of(1, 2), 5);
    }

    /** Promise 4: 'what it was' */
    private static void barTellsWhatItWas() {
        LampNet x = Nets.posts(12);
        Check.due("1 at first", x.bar(11, 0), 1);
        Check.due("0", x.bar(11, 99), 0);
        Check.due("99", x.bar(11, 99), 99);
        Check.due("99 again", x.bar(11, 1), 99);
        Check.due("the first post's", x.bar(0, 5), 1);
        Check.due("the price is none of it", x.of(0, 1), 1);
    }

    /** Promise 4: '-2 when there is no such post' */
    private static void barOfNoPost() {
        LampNet x = Nets.posts(3);
        for (int p : noPosts(3)) {
            Check.due("bar of " + p, x.bar(p, 5), -2);
            Check.due("no bar of " + p, x.bar(p, 100), -2);
            Check.due("no bar of " + p, x.bar(p, -1), -2);
        }
        for (int p = 0; p < 3; p++) {
            Check.due("bar of " + p, x.of(p, 0), 1);
        }
        x.post();
        Check.due("the bar of a later post", x.of(3, 0), 1);
        Check.due("bar of 12", Nets.posts(12).bar(12, 5), -2);
    }

    /** Promise 4: '-2 when .. bar is not 0..99' */
    private static void barNot0To99() {
        LampNet x = Nets.posts(1);
        x.bar(0, 42);
        for (int bar : new int[] {-1, LEAST, 100, 101, 256, GREATEST}) {
            Check.due("bar " + bar, x.bar(0, bar), -2);
        }
        Check.due("42 still", x.bar(0, 99), 42);
        Check.due("99 taken", x.bar(0, 0), 99);
        Check.due("0 taken", x.of(0, 0), 0);
    }

    /** Promise 5: 'what it was' */
    private static void priceTellsWhatItWas() {
        LampNet x = Nets.posts(12);
        Check.due("1 at first", x.price(11, 0), 1);
        Check.due("0", x.price(11, 1000), 0);
        Check.due("1000", x.price(11, 1000), 1000);
        Check.due("1000 again", x.price(11, 1), 1000);
        Check.due("the first post's", x.price(0, 5), 1);
        Check.due("the bar is none of it", x.of(0, 0), 1);
    }

    /** Promise 5: '-2 when there is no such post' */
    private static void priceOfNoPost() {
        LampNet x = Nets.posts(3);
        for (int p : noPosts(3)) {
            Check.due("price of " + p, x.price(p, 5), -2);
            Check.due("no price of " + p, x.price(p, 1001), -2);
            Check.due("no price of " + p, x.price(p, -1), -2);
        }
        for (int p = 0; p < 3; p++) {
            Check.due("price of " + p, x.of(p, 1), 1);
        }
        x.post();
        Check.due("the price of a later post", x.of(3, 1), 1);
        Check.due("price of 12", Nets.posts(12).price(12, 5), -2);
    }

    /** Promise 5: '-2 when .. price is not 0..1000' */
    private static void priceNot0To1000() {
        LampNet x = Nets.posts(1);
        x.price(0, 42);
        for (int price : new int[] {-1, LEAST, 1001, 1002, 65536, GREATEST}) {
            Check.due("price " + price, x.price(0, price), -2);
        }
        Check.due("42 still", x.price(0, 1000), 42);
        Check.due("1000 taken", x.price(0, 0), 1000);
        Check.due("0 taken", x.of(0, 1), 0);
    }

    /** Promise 6: '0 its BAR, 1 its PRICE, 2 the set of those BEHIND it, 3 the set of those that it is BEHIND' */
    private static void ofEach() {
        LampNet x = Nets.complete(12);
        x.bar(11, 99);
        x.price(11, 1000);
        Check.due("bar", x.of(11, 0), 99);
        Check.due("price", x.of(11, 1), 1000);
        Check.due("all others are behind it", x.of(11, 2), 2047);
        Check.due("it is behind all others", x.of(11, 3), 2047);
        Check.due("all others are behind 0", x.of(0, 2), 4094);
        Check.due("0 is behind all others", x.of(0, 3), 4094);
        LampNet one = Nets.posts(1);
        Check.due("none behind it", one.of(0, 2), 0);
        Check.due("behind none", one.of(0, 3), 0);
    }

    /** Promise 6: '-2 when there is no such post ..' */
    private static void ofNoPost() {
        LampNet x = Nets.path(3);
        for (int p : noPosts(3)) {
            for (int what = 0; what < 4; what++) {
                Check.due("of " + p + ", " + what, x.of(p, what), -2);
            }
        }
        Check.due("of the last", x.of(2, 3), 2);
        Check.due("of 12", Nets.posts(12).of(12, 2), -2);
        Check.due("of 0 without posts", new LampNet().of(0, 2), -2);
    }

    /** Promise 6: '-2 when there is no such .. what' */
    private static void ofNoWhat() {
        LampNet x = Nets.path(3);
        for (int what : new int[] {-1, 4, 5, LEAST, GREATEST, 256}) {
            Check.due("of 1, " + what, x.of(1, what), -2);
            Check.due("no post either", x.of(3, what), -2);
        }
    }

    /** Promise 28: 'How many posts there are.' */
    private static void countFrom0To12() {
        LampNet x = new LampNet();
        for (int posts = 0; posts < 12; posts++) {
            Check.due("count", x.count(), posts);
            x.post();
        }
        Check.due("count", x.count(), 12);
        x.post();
        Check.due("count behind a refused post", x.count(), 12);
    }
}
