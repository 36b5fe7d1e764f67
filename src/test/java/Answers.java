import java.util.ArrayList;
import java.util.List;

/** What every call tells of a net, in some 170 calls. */
final class Answers {
    private Answers() {
    }

    static List<Integer> of(LampNet x, int posts) {
        List<Integer> told = new ArrayList<>();
        int all = (1 << posts) - 1;
        told.add(x.count());
        for (int p = 0; p < posts; p++) {
            for (int what = 0; what < 4; what++) {
                told.add(x.of(p, what));
            }
            told.add(x.hand(p));
        }
        for (int rule = 0; rule < 3; rule++) {
            ofRule(told, x, rule, all);
        }
        told.add(x.burn());
        told.add(x.burnt(1));
        told.add(x.burnt(all));
        told.add(x.guards());
        for (int set : new int[] {0, 1 & all, 0x5b5 & all, all}) {
            told.add(x.save(set));
            told.add(x.wall(set, 0));
            told.add(x.wall(set, 1));
            told.add(x.holds(set));
            told.add(x.answer(set, 0));
            told.add(x.answer(set, posts - 1));
        }
        return told;
    }

    private static void ofRule(List<Integer> told, LampNet x, int rule, int all) {
        told.add(x.forts(rule, 0));
        told.add(x.forts(rule, 2));
        told.add(x.apart(rule));
        told.add(x.least(rule));
        told.add(x.many(rule));
        told.add(x.cheapest(rule));
        told.add(x.pared(rule));
        for (int set : new int[] {0, 1 & all, 0xb6d & all}) {
            told.add(x.go(rule, set));
            told.add(x.ticks(rule, set));
            told.add(x.when(rule, set, 1));
            told.add(x.brought(rule, set, 1));
            told.add(x.fort(rule, set));
            told.add(x.win(rule, set));
            told.add(x.first(rule, set));
        }
    }
}
