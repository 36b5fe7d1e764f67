import java.util.ArrayList;
import java.util.List;

/**
 * A refused call changes nothing that later calls tell: behind refused calls a net answers all as one that
 * was never asked wrongly, whether it had been asked rightly ahead of them or not.
 */
public final class RefusalTest {
    /** With the answers ahead and behind, an object stays within its 512 calls. */
    private static final int REFUSED_AT_ONCE = 60;

    public static void main(String[] args) {
        for (int posts : new int[] {0, 1, 3, 10, 11, 12}) {
            for (Call call : Call.values()) {
                gridOf(call, posts);
            }
            wrongHands(posts);
        }
        thirteenthPost();
        questionsChangeNothing();
        Check.end();
    }

    private static void gridOf(Call call, int posts) {
        List<int[]> refused = new ArrayList<>();
        for (int[] arguments : call.grid(posts)) {
            if (call.isRefused(posts, arguments)) {
                refused.add(arguments);
            }
        }
        for (int from = 0; from < refused.size(); from += REFUSED_AT_ONCE) {
            List<int[]> some = refused.subList(from, Math.min(from + REFUSED_AT_ONCE, refused.size()));
            refuse(call, posts, some, false);
            // Tables that a call keeps are there only where it has been asked before.
            refuse(call, posts, some, true);
        }
    }

    private static void refuse(Call call, int posts, List<int[]> refused, boolean isAskedBefore) {
        LampNet x = net(posts);
        if (isAskedBefore) {
            Answers.of(x, posts);
        }
        for (int[] arguments : refused) {
            Check.due(call.told(posts, arguments), call.on(x, arguments), -2);
        }
        same("behind " + call.told(posts, refused.get(0)) + " and others", x, posts);
    }

    private static void wrongHands(int posts) {
        for (boolean isAskedBefore : new boolean[] {false, true}) {
            LampNet x = net(posts);
            if (isAskedBefore) {
                Answers.of(x, posts);
            }
            Check.due("hands below 0", x.burnt(-1), -2);
            Check.due("the least hands", x.burnt(Long.MIN_VALUE), -2);
            if (posts > 1) {
                Check.due("a digit 0", x.burnt(13), -2);
                Check.due("a digit 0 behind a hand", x.burnt(posts + 2 * 169), -2);
                Check.due("on by hand", x.burnt(posts + 13 * posts), -2);
            }
            if (posts > 0 && posts < 12) {
                Check.due("no post", x.burnt(posts + 1), -2);
            }
            same("behind wrong hands with " + posts + " posts", x, posts);
        }
    }

    private static void thirteenthPost() {
        for (boolean isAskedBefore : new boolean[] {false, true}) {
            LampNet x = net(12);
            if (isAskedBefore) {
                Answers.of(x, 12);
            }
            for (int again = 0; again < 3; again++) {
                Check.due("a 13th post", x.post(), -2);
            }
            same("behind a 13th post", x, 12);
        }
    }

    private static void questionsChangeNothing() {
        for (int posts : new int[] {0, 1, 3, 10, 12}) {
            LampNet x = net(posts);
            Answers.of(x, posts);
            same("behind questions with " + posts + " posts", x, posts);
        }
    }

    private static LampNet net(int posts) {
        LampNet x = Nets.path(posts);
        for (int p = 0; p < posts; p++) {
            x.bar(p, p % 4);
            x.price(p, p * 7 % 5);
            x.road(p, (p + 3) % posts, weight(p));
        }
        return x;
    }

    private static int weight(int p) {
        return 1 + p % 9;
    }

    private static void same(String told, LampNet x, int posts) {
        LampNet untouched = net(posts);
        Check.due(told, Answers.of(x, posts).equals(Answers.of(untouched, posts)) ? 1 : 0, 1);
        for (int p = 0; p < posts; p++) {
            int to = (p + 3) % posts;
            Check.due(told + " weight " + p, x.road(p, to, 0), untouched.road(p, to, 0));
        }
    }
}
