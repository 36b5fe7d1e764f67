import com.sun.management.ThreadMXBean;
import java.lang.management.ManagementFactory;

/** All calls of a run live in one room: no call makes rows anew, whatever changes between the calls. */
public final class RoomTest {
    private static final long MOST_BYTES_OF_AN_OBJECT = 400_000;
    private static final long MOST_BYTES_OF_ITS_CALLS = 100_000;

    public static void main(String[] args) {
        ThreadMXBean threads = (ThreadMXBean) ManagementFactory.getThreadMXBean();
        long me = Thread.currentThread().getId();
        calls(new LampNet(), 40);
        long start = threads.getThreadAllocatedBytes(me);
        LampNet x = new LampNet();
        long made = threads.getThreadAllocatedBytes(me);
        calls(x, 512);
        long done = threads.getThreadAllocatedBytes(me);
        Check.due("room for an object: " + (made - start), made - start <= MOST_BYTES_OF_AN_OBJECT ? 1 : 0, 1);
        Check.due("room for its calls: " + (done - made), done - made <= MOST_BYTES_OF_ITS_CALLS ? 1 : 0, 1);
        Check.end();
    }

    private static void calls(LampNet x, int calls) {
        int posts = calls < 512 ? 10 : 12;
        for (int p = 0; p < posts; p++) {
            x.post();
        }
        for (int call = posts; call + 1 < calls; call += 2) {
            x.road(call % posts, (call * 7 + 1) % posts, call % 10);
            ask(x, call / 2 % 9, call % 2);
        }
    }

    private static void ask(LampNet x, int which, int rule) {
        switch (which) {
            case 0:
                x.burn();
                break;
            case 1:
                x.guards();
                break;
            case 2:
                x.win(2, 0);
                break;
            case 3:
                x.apart(rule);
                break;
            case 4:
                x.forts(rule, 3);
                break;
            case 5:
                x.cheapest(rule);
                break;
            case 6:
                x.brought(2, 3, 5);
                break;
            case 7:
                x.wall(1, 2);
                break;
            default:
                x.burnt(Long.MAX_VALUE);
                break;
        }
    }
}
