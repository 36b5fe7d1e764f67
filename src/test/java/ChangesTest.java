import java.util.List;
import java.util.function.Consumer;

/** What a call has kept of a net is gone with each change of it: asked ahead of one or two changes or not, all is told alike. */
public final class ChangesTest {
    private static final List<Consumer<LampNet>> CHANGES = List.of(
        x -> x.road(0, 3, 1),
        x -> x.road(1, 2, 0),
        x -> x.road(2, 1, 7),
        x -> x.bar(2, 0),
        x -> x.bar(1, 3),
        x -> x.price(0, 0),
        x -> x.price(3, 1000),
        x -> x.post());

    public static void main(String[] args) {
        for (int i = 0; i < CHANGES.size(); i++) {
            for (int j = 0; j < CHANGES.size(); j++) {
                asOnNew(i, j);
            }
        }
        Check.end();
    }

    private static void asOnNew(int i, int j) {
        LampNet asked = Nets.path(5);
        Answers.of(asked, 5);
        CHANGES.get(i).accept(asked);
        CHANGES.get(j).accept(asked);
        LampNet fresh = Nets.path(5);
        CHANGES.get(i).accept(fresh);
        CHANGES.get(j).accept(fresh);
        boolean isSame = Answers.of(asked, asked.count()).equals(Answers.of(fresh, fresh.count()));
        Check.due("changes " + i + " and " + j, isSame ? 1 : 0, 1);
    }
}
