import java.util.function.Consumer;
import java.util.function.ToIntFunction;

/**
 * Two objects with the same past, of which one alone gets a call that must change nothing: then
 * both are asked for everything that can be learned of them, what is undone and kept too.
 */
final class Twins {
    private static final int UNDONE_AND_ONE = 7;

    private final Checks checks;

    Twins(Checks checks) {
        this.checks = checks;
    }

    void unchanged(String call, int want, Consumer<YieldDesk> past, ToIntFunction<YieldDesk> asked) {
        YieldDesk called = new YieldDesk();
        YieldDesk left = new YieldDesk();
        past.accept(called);
        past.accept(left);
        checks.due(call, want, asked.applyAsInt(called));
        checks.same("all behind " + call, everything(left), everything(called));
    }

    /** The object is of no further use then. */
    private static String everything(YieldDesk desk) {
        StringBuilder all = new StringBuilder(Checks.stateOf(desk));
        for (int what = 9; what <= 11; what++) {
            all.append(" count ").append(desk.count(what));
        }
        all.append(" fits ").append(desk.fits(0)).append(' ').append(desk.fits(1));
        all.append(" look ").append(desk.look());
        for (int i = 0; i < UNDONE_AND_ONE; i++) {
            int answer = desk.undo();
            all.append(" undo ").append(answer);
            if (answer >= 0) {
                all.append(' ').append(Checks.stateOf(desk));
            }
        }
        for (int image = 0; image <= 1; image++) {
            int answer = desk.back(image);
            all.append(" back ").append(answer);
            if (answer >= 0) {
                all.append(' ').append(Checks.stateOf(desk));
            }
        }
        all.append(" tells ").append(desk.tells()).append(' ').append(Checks.stateOf(desk));
        return all.append(" clear ").append(desk.clear()).toString();
    }
}
