/** The edges that promises 18 to 20 name, each with a test of its own. */
public final class BurningEdgesTest {
    /** 13 in the power of 12: what twelve hands take up. */
    private static final long TWELVE_DIGITS = 23298085122481L;

    public static void main(String[] args) {
        burnWithoutPosts();
        burnFrom1To12();
        handFrom0On();
        handWhenThereIsNoneSuch();
        handsOfLesserPosts();
        burntWithoutPosts();
        burntWithoutHands();
        burntByHandsBelow0();
        burntByADigit0();
        burntByAHandThatIsNoPost();
        burntByAHandThatIsOnByHand();
        burntByAHandThatIsOnByEarlierRoads();
        burntByAHandThatIsOnByRoadsOfThatTick();
        burntBehindTheHighestDigit();
        burntNotAll();
        burntToldAsSoonAsAllAreOn();
        burntToldAheadOfWrongDigits();
        burntByTwelveHands();
        burntByTheGreatestLong();
        Check.end();
    }

    private static long hands(int... posts) {
        long hands = 0;
        for (int i = posts.length - 1; i >= 0; i--) {
            hands = hands * 13 + posts[i] + 1;
        }
        return hands;
    }

    /** A digit at its place among the hands. */
    private static long digit(int digit, int place) {
        long worth = digit;
        for (int i = 0; i < place; i++) {
            worth *= 13;
        }
        return worth;
    }

    /** Promise 18: '(0 without posts)' */
    private static void burnWithoutPosts() {
        LampNet x = new LampNet();
        Check.due("without posts", x.burn(), 0);
        x.post();
        Check.due("with one", x.burn(), 1);
    }

    /** Promise 18: as short and as long as it can be */
    private static void burnFrom1To12() {
        for (int posts = 1; posts <= 12; posts++) {
            Check.due(posts + " without roads", Nets.posts(posts).burn(), posts);
            Check.due(posts + " with all roads", Nets.complete(posts).burn(), Math.min(posts, 2));
        }
    }

    /** Promise 19: 'The i-th of THE HANDS, from 0 on' */
    private static void handFrom0On() {
        LampNet x = Nets.posts(12);
        for (int i = 0; i < 12; i++) {
            Check.due("hand " + i, x.hand(i), i);
        }
        LampNet path = Nets.path(9);
        Check.due("the first", path.hand(0), 2);
        Check.due("the second", path.hand(1), 6);
        Check.due("the last", path.hand(2), 8);
    }

    /** Promise 19: '-1 when there is none such' */
    private static void handWhenThereIsNoneSuch() {
        Check.due("without posts", new LampNet().hand(0), -1);
        Check.due("without posts, -1", new LampNet().hand(-1), -1);
        Check.due("behind the only one", Nets.posts(1).hand(1), -1);
        Check.due("behind the last of twelve", Nets.posts(12).hand(12), -1);
        Check.due("13 of twelve", Nets.posts(12).hand(13), -1);
        Check.due("behind the last of three", Nets.path(9).hand(3), -1);
        Check.due("roads have the second on", Nets.path(2).hand(1), -1);
        Check.due("below 0", Nets.posts(12).hand(-1), -1);
        Check.due("the least", Nets.posts(12).hand(Integer.MIN_VALUE), -1);
        Check.due("the greatest", Nets.posts(12).hand(Integer.MAX_VALUE), -1);
    }

    /** 'of all such rows the one with the lesser post where they first differ' */
    private static void handsOfLesserPosts() {
        LampNet x = Nets.chain(3);
        // {0} needs three ticks by roads alone; 0 and then 2 by hand, or 1 and then 0, need two.
        Check.due("two ticks", x.burn(), 2);
        Check.due("the lesser first", x.hand(0), 0);
        Check.due("then the one that is off", x.hand(1), 2);
        x.road(0, 2, 1);
        Check.due("0 alone", x.hand(0), 0);
        Check.due("none behind it", x.hand(1), -1);
    }

    /** Promise 20: '(0 without posts)' */
    private static void burntWithoutPosts() {
        LampNet x = new LampNet();
        Check.due("no hands", x.burnt(0), 0);
        Check.due("a hand, not looked at", x.burnt(1), 0);
        Check.due("a digit 0, not looked at", x.burnt(13), 0);
        Check.due("the greatest hands", x.burnt(Long.MAX_VALUE), 0);
        Check.due("hands below 0", x.burnt(-1), -2);
        Check.due("the least hands", x.burnt(Long.MIN_VALUE), -2);
    }

    /** No digit at all: none is put on, and none comes on. */
    private static void burntWithoutHands() {
        for (int posts = 1; posts <= 12; posts++) {
            Check.due("no hands of " + posts, Nets.complete(posts).burnt(0), -1);
        }
        LampNet zero = Nets.posts(1);
        zero.bar(0, 0);
        Check.due("bars are none of it", zero.burnt(0), -1);
    }

    /** '-2 when hands is below 0' */
    private static void burntByHandsBelow0() {
        for (long hands : new long[] {-1, -13, -14, Integer.MIN_VALUE, Long.MIN_VALUE, Long.MIN_VALUE + 1}) {
            Check.due("hands " + hands, Nets.path(3).burnt(hands), -2);
            Check.due("hands " + hands, Nets.posts(1).burnt(hands), -2);
            Check.due("hands " + hands, Nets.complete(12).burnt(hands), -2);
        }
    }

    /** '-2 when .. a digit is 0' */
    private static void burntByADigit0() {
        LampNet x = Nets.posts(3);
        Check.due("the first, one behind it", x.burnt(digit(1, 1)), -2);
        Check.due("the first and the second", x.burnt(digit(1, 2)), -2);
        Check.due("the second", x.burnt(hands(0) + digit(2, 2)), -2);
        Check.due("the third", x.burnt(hands(0, 1) + digit(3, 3)), -2);
        Check.due("on one post", Nets.posts(1).burnt(13), -2);
        Check.due("on twelve", Nets.complete(12).burnt(13), -2);
        Check.due("the highest digit there is", Nets.complete(12).burnt(digit(1, 17)), -2);
    }

    /** '-2 when .. a hand is no post' */
    private static void burntByAHandThatIsNoPost() {
        for (int posts = 1; posts <= 11; posts++) {
            Check.due("the last of " + posts, Nets.posts(posts).burnt(posts), posts == 1 ? 1 : -1);
            Check.due("the first that is none", Nets.posts(posts).burnt(posts + 1), -2);
            Check.due("the highest digit", Nets.posts(posts).burnt(12), -2);
        }
        Check.due("the highest digit of twelve", Nets.complete(12).burnt(12), 2);
        Check.due("no post behind a hand", Nets.posts(3).burnt(hands(0, 3)), -2);
        Check.due("no post behind two hands", Nets.posts(3).burnt(hands(0, 1, 3)), -2);
        LampNet grows = Nets.posts(3);
        grows.post();
        Check.due("a post now", grows.burnt(hands(3, 2, 1, 0)), 4);
    }

    /** '-2 when .. a hand is .. ON at its time' */
    private static void burntByAHandThatIsOnByHand() {
        Check.due("the same again", Nets.posts(3).burnt(hands(0, 0)), -2);
        Check.due("the same of twelve again", Nets.posts(12).burnt(hands(11, 11)), -2);
        Check.due("the same behind another one", Nets.posts(3).burnt(hands(0, 1, 0)), -2);
        Check.due("another one", Nets.posts(3).burnt(hands(0, 1, 2)), 3);
    }

    private static void burntByAHandThatIsOnByEarlierRoads() {
        LampNet x = Nets.chain(2);
        x.post();
        x.post();
        Check.due("1 came on at tick 2", x.burnt(hands(0, 2, 1)), -2);
        Check.due("3 is off still", x.burnt(hands(0, 2, 3)), 3);
    }

    /** '(by roads of that TICK, too)' */
    private static void burntByAHandThatIsOnByRoadsOfThatTick() {
        LampNet x = Nets.chain(3);
        Check.due("1 comes on at tick 2", x.burnt(hands(0, 1)), -2);
        Check.due("2 does not", x.burnt(hands(0, 2)), 2);
        Check.due("0 does not, against the way of the road", x.burnt(hands(1, 0)), 2);
        LampNet far = Nets.chain(5);
        Check.due("2 comes on at tick 3", far.burnt(hands(0, 4, 2)), -2);
        Check.due("3 does not", far.burnt(hands(0, 4, 3)), 3);
    }

    /** 'behind the highest one there are no more, and none is put ON by hand' */
    private static void burntBehindTheHighestDigit() {
        LampNet x = Nets.chain(12);
        Check.due("one hand, then roads alone", x.burnt(hands(0)), 12);
        Check.due("two hands, then roads alone", x.burnt(hands(0, 6)), 7);
        LampNet late = Nets.posts(4);
        late.road(3, 2, 1);
        Check.due("roads at a tick without a hand", late.burnt(hands(0, 1, 3)), 4);
        LampNet lone = Nets.posts(2);
        Check.due("the other one is not put on", lone.burnt(hands(0)), -1);
    }

    /** '-1 when not all come ON', told as soon as none is left and none comes on any more */
    private static void burntNotAll() {
        Check.due("against the way of the road", Nets.chain(3).burnt(hands(1)), -1);
        Check.due("eleven of twelve by roads", Nets.chain(12).burnt(hands(1)), -1);
        LampNet split = Nets.path(11);
        split.post();
        Check.due("the twelfth has no road", split.burnt(hands(0)), -1);
        Check.due("the twelfth by hand", split.burnt(hands(0, 11)), 11);
        Check.due("a tick at which no road brings one on", Nets.posts(3).burnt(hands(2, 1)), -1);
    }

    /** 'As soon as all are ON .. it is told': at the tick at which the last one comes on */
    private static void burntToldAsSoonAsAllAreOn() {
        Check.due("one by hand", Nets.posts(1).burnt(hands(0)), 1);
        Check.due("two by hand", Nets.posts(2).burnt(hands(1, 0)), 2);
        Check.due("by roads", Nets.complete(12).burnt(hands(5)), 2);
        Check.due("by roads, with a hand left", Nets.complete(12).burnt(hands(5, 4)), 2);
        Check.due("by a road and a hand", Nets.chain(3).burnt(hands(0, 2)), 2);
    }

    /** '.. or, ahead of that, ..': what is wrong with later digits is not asked any more */
    private static void burntToldAheadOfWrongDigits() {
        LampNet one = Nets.posts(1);
        Check.due("on already", one.burnt(hands(0, 0)), 1);
        Check.due("no post", one.burnt(hands(0, 11)), 1);
        Check.due("a digit 0", one.burnt(hands(0) + digit(1, 2)), 1);
        LampNet pair = Nets.path(2);
        Check.due("roads have all on: on already", pair.burnt(hands(0, 0)), 2);
        Check.due("roads have all on: on by roads of that tick", pair.burnt(hands(0, 1)), 2);
        Check.due("roads have all on: no post", pair.burnt(hands(0, 2)), 2);
        Check.due("roads have all on: a digit 0", pair.burnt(hands(0) + digit(1, 2)), 2);
        Check.due("a digit 0 ahead of it", pair.burnt(digit(1, 1)), -2);
        Check.due("no post ahead of it", pair.burnt(hands(2, 0)), -2);
    }

    private static void burntByTwelveHands() {
        LampNet x = Nets.posts(12);
        long all = hands(11, 10, 9, 8, 7, 6, 5, 4, 3, 2, 1, 0);
        Check.due("all by hand", x.burnt(all), 12);
        Check.due("a 13th is not looked at", x.burnt(all + TWELVE_DIGITS), 12);
        Check.due("nor are more of them", x.burnt(all + 12 * TWELVE_DIGITS * 13 * 13), 12);
        Check.due("but eleven", x.burnt(hands(11, 10, 9, 8, 7, 6, 5, 4, 3, 2, 1)), -1);
        Check.due("the last one twice", x.burnt(hands(11, 10, 9, 8, 7, 6, 5, 4, 3, 2, 1, 1)), -2);
    }

    /** Its 18 digits, the lowest first, begin with 7, 3, 12, 3: posts 6, 2, 11, and 2 again. */
    private static void burntByTheGreatestLong() {
        Check.due("the first hand has all on", Nets.complete(12).burnt(Long.MAX_VALUE), 2);
        Check.due("post 6 is none of six", Nets.posts(6).burnt(Long.MAX_VALUE), -2);
        Check.due("one below it, post 5", Nets.complete(6).burnt(Long.MAX_VALUE - 1), 2);
        Check.due("post 2 again", Nets.posts(12).burnt(Long.MAX_VALUE), -2);
    }
}
