/** Promises 18 to 20: burn, hand, burnt. */
public final class BurningTest {
    public static void main(String[] args) {
        path();
        lonePosts();
        complete();
        oneWay();
        toldHands();
        lateDigits();
        wrongHands();
        edges();
        Check.end();
    }

    private static long hands(int... posts) {
        long hands = 0;
        for (int i = posts.length - 1; i >= 0; i--) {
            hands = hands * 13 + posts[i] + 1;
        }
        return hands;
    }

    private static void expect(LampNet x, int burn, int... hands) {
        Check.due("burn", x.burn(), burn);
        for (int i = 0; i < hands.length; i++) {
            Check.due("hand " + i, x.hand(i), hands[i]);
        }
        Check.due("hand behind the last", x.hand(hands.length), -1);
        Check.due("hand -1", x.hand(-1), -1);
        Check.due("hand least", x.hand(Integer.MIN_VALUE), -1);
        Check.due("hand greatest", x.hand(Integer.MAX_VALUE), -1);
        Check.due("burnt by the hands", x.burnt(hands(hands)), burn);
    }

    private static void path() {
        // Nine in a row are five, three and one.
        expect(Nets.path(9), 3, 2, 6, 8);
        expect(Nets.path(4), 2, 1, 3);
        expect(Nets.path(2), 2, 0);
        // A road taken up asks for one tick more.
        LampNet x = Nets.path(4);
        x.road(1, 2, 0);
        x.road(2, 1, 0);
        expect(x, 3, 0, 2);
    }

    private static void lonePosts() {
        expect(Nets.posts(12), 12, 0, 1, 2, 3, 4, 5, 6, 7, 8, 9, 10, 11);
        expect(Nets.posts(1), 1, 0);
    }

    private static void complete() {
        // At tick 2 roads have all on, so no hand is put then.
        expect(Nets.complete(12), 2, 0);
        expect(Nets.star(12), 2, 0);
    }

    /** Burning asks neither bars nor weights, but the way of a road. */
    private static void oneWay() {
        LampNet x = Nets.posts(3);
        x.road(2, 0, 9);
        x.road(2, 1, 1);
        x.bar(1, 99);
        x.bar(0, 0);
        expect(x, 2, 2);
    }

    private static void toldHands() {
        LampNet chain = Nets.chain(4);
        Check.due("one hand, then roads alone", chain.burnt(hands(0)), 4);
        Check.due("a hand ahead of the roads", chain.burnt(hands(0, 3)), 3);
        Check.due("roads do not go back", chain.burnt(hands(1)), -1);
        Check.due("back by hand", chain.burnt(hands(1, 0)), 3);
        Check.due("no hands", chain.burnt(0), -1);
        LampNet lone = Nets.posts(2);
        Check.due("one is left off", lone.burnt(hands(1)), -1);
        Check.due("both by hand", lone.burnt(hands(1, 0)), 2);
        // Ticks at which roads bring none on do not end it while there are hands.
        LampNet late = Nets.posts(4);
        late.road(3, 2, 1);
        Check.due("roads behind the last hand", late.burnt(hands(0, 1, 3)), 4);
        Check.due("the last hand along with roads", late.burnt(hands(0, 3, 1)), 3);
        LampNet all = Nets.posts(12);
        Check.due("twelve hands", all.burnt(hands(11, 10, 9, 8, 7, 6, 5, 4, 3, 2, 1, 0)), 12);
        Check.due("eleven hands", all.burnt(hands(11, 10, 9, 8, 7, 6, 5, 4, 3, 2, 1)), -1);
    }

    /** Digits behind the tick at which all are on are not looked at. */
    private static void lateDigits() {
        LampNet path = Nets.path(9);
        long due = hands(2, 6, 8);
        Check.due("just so", path.burnt(due), 3);
        Check.due("one more hand", path.burnt(due + 13 * 13 * 13), 3);
        Check.due("a 0 and one more", path.burnt(due + 5L * 13 * 13 * 13 * 13), 3);
        Check.due("no post behind it", path.burnt(due + 12L * 13 * 13 * 13), 3);
        LampNet complete = Nets.complete(12);
        Check.due("roads have all on ahead of the digit", complete.burnt(hands(4, 4)), 2);
        Check.due("the greatest number", complete.burnt(Long.MAX_VALUE), 2);
        Check.due("the greatest number of a lone post", Nets.posts(1).burnt(1 + 13L * 13 * 13), 1);
    }

    private static void wrongHands() {
        LampNet path = Nets.path(9);
        Check.due("below 0", path.burnt(-1), -2);
        Check.due("least", path.burnt(Long.MIN_VALUE), -2);
        Check.due("first digit 0", path.burnt(13), -2);
        Check.due("a digit 0 between", path.burnt(hands(2, 6) + 2197), -2);
        Check.due("no post", path.burnt(hands(9)), -2);
        Check.due("no post, greatest digit", path.burnt(12), -2);
        Check.due("no post later", path.burnt(hands(2, 11)), -2);
        Check.due("on by hand", path.burnt(hands(2, 2)), -2);
        Check.due("on by roads of that tick", path.burnt(hands(2, 3)), -2);
        Check.due("on by roads of a later tick", path.burnt(hands(2, 6, 4)), -2);
        Check.due("off still", path.burnt(hands(2, 4)), 6);
        Check.due("the greatest number", Nets.posts(5).burnt(Long.MAX_VALUE), -2);
    }

    private static void edges() {
        LampNet none = new LampNet();
        expect(none, 0);
        Check.due("no posts, a hand", none.burnt(1), 0);
        Check.due("no posts, a digit 0", none.burnt(13), 0);
        Check.due("no posts, below 0", none.burnt(-1), -2);
        LampNet grows = Nets.posts(1);
        expect(grows, 1, 0);
        grows.post();
        expect(grows, 2, 0, 1);
        grows.road(1, 0, 1);
        expect(grows, 2, 0, 1);
        expect(Nets.ring(12), 4, 0, 2, 6, 8);
    }
}
