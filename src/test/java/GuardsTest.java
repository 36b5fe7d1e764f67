/** Promises 23 to 25: holds, guards, answer. */
public final class GuardsTest {
    public static void main(String[] args) {
        path();
        complete();
        oneWayRing();
        lonePosts();
        onlyForAWhile();
        edges();
        wrong();
        Check.end();
    }

    private static void path() {
        LampNet x = Nets.path(5);
        Check.due("guards", x.guards(), 3);
        Check.due("holds 21", x.holds(21), 1);
        Check.due("answer from 0", x.answer(21, 1), 0);
        Check.due("answer from 2, the lesser of two", x.answer(21, 3), 2);
        Check.due("answer from 3, as without 1 post 0 would be lost", x.answer(26, 2), 3);
        Check.due("answer where one stands", x.answer(21, 2), -1);
    }

    private static void complete() {
        LampNet x = Nets.complete(12);
        Check.due("guards", x.guards(), 1);
        Check.due("holds 1", x.holds(1), 1);
        Check.due("holds 0", x.holds(0), 0);
        Check.due("answer by the only one", x.answer(1 << 11, 0), 11);
        Check.due("answer by the least", x.answer(6, 0), 1);
        Check.due("answer of none", x.answer(0, 0), -1);
        Check.due("star", Nets.star(12).guards(), 11);
        Check.due("ring", Nets.ring(12).guards(), 6);
    }

    /** One goes the way of a road, not back. */
    private static void oneWayRing() {
        LampNet x = Nets.chain(3);
        x.road(2, 0, 1);
        Check.due("guards", x.guards(), 2);
        Check.due("holds 1", x.holds(1), 0);
        Check.due("holds 3", x.holds(3), 1);
        Check.due("answer 3, 2", x.answer(3, 2), 1);
        Check.due("answer 5, 1", x.answer(5, 1), 0);
        Check.due("answer 6, 0", x.answer(6, 0), 2);
        x.road(2, 0, 0);
        Check.due("guards of a chain", x.guards(), 3);
        Check.due("holds 3 no more", x.holds(3), 0);
        Check.due("answer of a set that does not hold", x.answer(3, 2), -1);
    }

    private static void lonePosts() {
        LampNet x = Nets.posts(12);
        Check.due("guards", x.guards(), 12);
        Check.due("holds 4095", x.holds(4095), 1);
        Check.due("holds 4094", x.holds(4094), 0);
        Check.due("holds 2047", x.holds(2047), 0);
        Check.due("answer where one stands", x.answer(4095, 11), -1);
        Check.due("answer of a set that does not hold", x.answer(4094, 0), -1);
    }

    /** Each first strike at {1, 3} can be answered, but not each one behind it. */
    private static void onlyForAWhile() {
        LampNet x = Nets.path(5);
        Check.due("holds 10", x.holds(10), 0);
        Check.due("answer 10, 0", x.answer(10, 0), -1);
        Check.due("holds 7, with 4 out of reach", x.holds(7), 0);
        Check.due("holds 11, to which 7 could go", x.holds(11), 1);
        Check.due("yet no answer from what does not hold", x.answer(7, 3), -1);
        Check.due("answer where one stands", x.answer(10, 1), -1);
        Check.due("star of 4, middle and one", Nets.star(4).holds(3), 0);
        Check.due("star of 4, middle and two", Nets.star(4).holds(7), 1);
        Check.due("star of 4, all but the middle", Nets.star(4).holds(14), 1);
    }

    private static void edges() {
        LampNet x = new LampNet();
        Check.due("holds without posts", x.holds(0), 1);
        Check.due("guards without posts", x.guards(), 0);
        x.post();
        Check.due("holds 0", x.holds(0), 0);
        Check.due("holds 1", x.holds(1), 1);
        Check.due("guards", x.guards(), 1);
        x.post();
        Check.due("holds 1 of two", x.holds(1), 0);
        x.road(0, 1, 9);
        Check.due("holds 1, one way", x.holds(1), 0);
        x.road(1, 0, 9);
        Check.due("holds 1, both ways", x.holds(1), 1);
        Check.due("answer both ways", x.answer(1, 1), 0);
    }

    private static void wrong() {
        LampNet x = Nets.path(3);
        for (int set : new int[] {-1, 8, 4096, Integer.MIN_VALUE, Integer.MAX_VALUE}) {
            Check.due("holds", x.holds(set), -2);
            Check.due("answer", x.answer(set, 0), -2);
        }
        for (int p : new int[] {-1, 3, 12, 32, Integer.MIN_VALUE, Integer.MAX_VALUE}) {
            Check.due("answer", x.answer(5, p), -2);
            Check.due("answer of a set that does not hold", x.answer(0, p), -2);
        }
        Check.due("holds without posts", new LampNet().holds(1), -2);
        Check.due("answer without posts", new LampNet().answer(0, 0), -2);
    }
}
