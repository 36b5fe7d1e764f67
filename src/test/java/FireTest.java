/** Promises 21 and 22: save, wall. */
public final class FireTest {
    public static void main(String[] args) {
        path();
        ring();
        complete();
        oneWay();
        noFire();
        edges();
        wrong();
        Check.end();
    }

    private static void expect(LampNet x, int fire, int save, int... walls) {
        Check.due("save " + fire, x.save(fire), save);
        for (int i = 0; i < walls.length; i++) {
            Check.due("wall " + fire + ", " + i, x.wall(fire, i), walls[i]);
        }
        Check.due("wall behind the last", x.wall(fire, walls.length), -1);
        Check.due("wall -1", x.wall(fire, -1), -1);
        Check.due("wall least", x.wall(fire, Integer.MIN_VALUE), -1);
        Check.due("wall greatest", x.wall(fire, Integer.MAX_VALUE), -1);
    }

    private static void path() {
        expect(Nets.path(10), 1, 9, 1);
        expect(Nets.path(10), 512, 9, 8);
        // One side and then, one burnt further, the other one.
        expect(Nets.path(10), 16, 8, 3, 6);
        expect(Nets.path(5), 4, 3, 1, 4);
        // Three are next to the fire, and all but the walled one burn at once.
        expect(Nets.path(5), 10, 1, 0);
    }

    private static void ring() {
        expect(Nets.ring(4), 1, 2, 1, 2);
        expect(Nets.ring(10), 1, 8, 1, 8);
    }

    private static void complete() {
        expect(Nets.complete(10), 1, 1, 1);
        expect(Nets.complete(10), 2, 1, 0);
        expect(Nets.star(10), 1, 1, 1);
        expect(Nets.star(10), 2, 9, 0);
    }

    /** Bars and weights have no say, the way of a road has. */
    private static void oneWay() {
        LampNet x = Nets.chain(4);
        x.bar(3, 99);
        expect(x, 8, 3, 0);
        expect(x, 1, 3, 1);
        expect(x, 4, 3, 3);
        // Nothing would burn: yet one is walled, the least.
        expect(Nets.posts(3), 1, 2, 1);
        expect(Nets.posts(3), 6, 1, 0);
    }

    private static void noFire() {
        expect(Nets.posts(10), 0, 10, 0);
        expect(Nets.complete(10), 0, 10, 0);
        expect(Nets.posts(1), 0, 1, 0);
        expect(new LampNet(), 0, 0);
    }

    private static void edges() {
        expect(Nets.complete(10), 1023, 0);
        expect(Nets.posts(1), 1, 0);
        // The last one that is left is walled, and at the next tick there is none to wall.
        expect(Nets.complete(2), 1, 1, 1);
        expect(Nets.complete(3), 3, 1, 2);
        LampNet x = Nets.complete(3);
        expect(x, 1, 1, 1);
        x.road(0, 1, 0);
        expect(x, 1, 2, 2);
    }

    private static void wrong() {
        LampNet ten = Nets.path(10);
        for (int set : new int[] {-1, 1024, 4096, Integer.MIN_VALUE, Integer.MAX_VALUE}) {
            Check.due("save", ten.save(set), -2);
            Check.due("wall", ten.wall(set, 0), -2);
            Check.due("wall", ten.wall(set, -1), -2);
        }
        ten.post();
        for (int set : new int[] {0, 1, 2047, 2048, -1}) {
            Check.due("save of eleven", ten.save(set), -2);
            Check.due("wall of eleven", ten.wall(set, 0), -2);
            Check.due("wall of eleven", ten.wall(set, 99), -2);
        }
        ten.post();
        Check.due("save of twelve", ten.save(1), -2);
        Check.due("wall of twelve", ten.wall(1, 0), -2);
        Check.due("save without posts", new LampNet().save(1), -2);
        Check.due("wall without posts", new LampNet().wall(1, 0), -2);
    }
}
