import java.util.List;
import java.util.function.Consumer;
import java.util.function.ToIntFunction;

/** All promises: a call that is refused, or that asks, changes nothing; what is refused first. */
public final class RefusedTest {
    private static final int LEAST = Integer.MIN_VALUE;
    private static final int GREATEST = Integer.MAX_VALUE;
    private static final Checks CHECKS = new Checks();
    private static final Twins TWINS = new Twins(CHECKS);

    /** A call of one number. */
    private interface Call {
        int of(YieldDesk desk, int number);
    }

    public static void main(String[] args) {
        typing();
        telling();
        doing();
        badFlows();
        stateOfWhatIsDone();
        undoing();
        askedByOne();
        askedByMore();
        seeing();
        images();
        answersChangeNothing();
        CHECKS.end();
    }

    private static void bad(String call, ToIntFunction<YieldDesk> asked) {
        TWINS.unchanged("new: " + call, YieldDesk.BAD, Pasts::none, asked);
        TWINS.unchanged("much: " + call, YieldDesk.BAD, Pasts::much, asked);
        TWINS.unchanged("one image: " + call, YieldDesk.BAD, Pasts::oneImage, asked);
        TWINS.unchanged("full: " + call, YieldDesk.BAD, Pasts::full, asked);
    }

    /** All beyond the least and the greatest number that is taken: the nearest, farther, the farthest. */
    private static void badBeyond(String name, int least, int greatest, Call call) {
        int[] beyond = {LEAST, least - 100, least - 2, least - 1, greatest + 1, greatest + 2, greatest + 100, GREATEST};
        for (int number : beyond) {
            bad(name + " of " + number, desk -> call.of(desk, number));
        }
    }

    private static void state(String call, Consumer<YieldDesk> past, ToIntFunction<YieldDesk> asked) {
        TWINS.unchanged(call, YieldDesk.STATE, past, asked);
    }

    private static void typing() {
        CHECKS.sentence("A letter (0 .. 255) comes to THE TEXT: how many it has. BAD; FULL: 120.");
        badBeyond("type", 0, 255, YieldDesk::type);
        for (int letter : new int[] {0, ' ', ';', 'i', 255}) {
            TWINS.unchanged("type(" + letter + ")", YieldDesk.FULL, Pasts::full, desk -> desk.type(letter));
        }
    }

    private static void telling() {
        CHECKS.sentence("-10 less FAULT: nothing changes, THE TEXT stays.");
        String[] texts = {"x", "i", "i 1 2;d", "i 1;i 2;", "i 1;d 100;", "c 1000;", "e 1 2 3;", "d 1;;", " 5", "d 1; c 007;"};
        int[] places = {0, 1, 7, 4, 6, 2, 7, 4, 1, 7};
        for (int i = 0; i < texts.length; i++) {
            String text = texts[i];
            Consumer<YieldDesk> past = desk -> Pasts.typed(desk, text);
            TWINS.unchanged("tells() of \"" + text + "\"", -10 - places[i], past, YieldDesk::tells);
        }
        TWINS.unchanged("tells() of 120 letters", -130,
            desk -> Pasts.typed(desk, "i 1" + " ".repeat(117)), YieldDesk::tells);
        TWINS.unchanged("tells() of a new object's x", -10, desk -> desk.type('x'), YieldDesk::tells);
    }

    private static void doing() {
        CHECKS.sentence("n (1 .. 99) PERIODS pass: how many of them FAIL. BAD; STATE: TIME would be above 999.");
        badBeyond("passes", 1, 99, YieldDesk::passes);
        CHECKS.sentence("DRAFT is q: what it was. BAD; STATE: it is that.");
        badBeyond("drafts", 0, 99, YieldDesk::drafts);
        CHECKS.sentence("CAP is c: what it was. BAD; STATE: it is that.");
        badBeyond("caps", 0, 999, YieldDesk::caps);
    }

    private static void badFlows() {
        CHECKS.sentence("The INFLOW of a PERIOD (0 .. n less 1) is v: what it was. BAD; STATE: it is that.");
        badBeyond("flows, v", 0, 99, (desk, v) -> desk.flows(0, v));
        for (int t : new int[] {LEAST, -100, -2, -1, 3, 4, 11, 12, 13, GREATEST}) {
            bad("flows(" + t + ", 50)", desk -> desk.flows(t, 50));
            bad("flows(" + t + ", 100)", desk -> desk.flows(t, 100));
        }
        bad("flows(n, what INFLOW 0 is)", desk -> desk.flows(desk.count(0), desk.inflow(0)));
        TWINS.unchanged("new: flows(1, 0)", YieldDesk.BAD, Pasts::none, desk -> desk.flows(1, 0));
    }

    private static void stateOfWhatIsDone() {
        CHECKS.sentence("STATE: TIME would be above 999.");
        state("passes(1) at 999", Pasts::full, desk -> desk.passes(1));
        state("passes(99) at 999", Pasts::full, desk -> desk.passes(99));
        state("passes(2) at 998", RefusedTest::nearTheEnd, desk -> desk.passes(2));
        state("passes(99) at 998", RefusedTest::nearTheEnd, desk -> desk.passes(99));
        CHECKS.sentence("STATE: it is that.");
        state("new: drafts(0)", Pasts::none, desk -> desk.drafts(0));
        state("much: drafts(4)", Pasts::much, desk -> desk.drafts(4));
        state("full: drafts(4)", Pasts::full, desk -> desk.drafts(4));
        state("new: caps(0)", Pasts::none, desk -> desk.caps(0));
        state("much: caps(9)", Pasts::much, desk -> desk.caps(9));
        state("full: caps(9)", Pasts::full, desk -> desk.caps(9));
        state("new: flows(0, 0)", Pasts::none, desk -> desk.flows(0, 0));
        state("much: flows(0, 10)", Pasts::much, desk -> desk.flows(0, 10));
        state("much: flows(1, 2)", Pasts::much, desk -> desk.flows(1, 2));
        state("full: flows(2, 3)", Pasts::full, desk -> desk.flows(2, 3));
    }

    private static void nearTheEnd(YieldDesk desk) {
        Checks.tell(desk, "i 9 1;d 7;c 5;");
        Checks.passTo(desk, 998);
    }

    private static void undoing() {
        CHECKS.sentence("UNDONE: how many more may be. STATE: none.");
        state("new: undo()", Pasts::none, YieldDesk::undo);
        state("undo() behind back()", desk -> {
            Pasts.much(desk);
            desk.back(0);
        }, YieldDesk::undo);
        state("the seventh undo()", desk -> {
            Pasts.much(desk);
            for (int i = 0; i < 6; i++) {
                desk.undo();
            }
        }, YieldDesk::undo);
    }

    private static void askedByOne() {
        CHECKS.sentence("The INFLOW of a PERIOD (0 .. n less 1). BAD.");
        for (int t : new int[] {LEAST, -2, -1, 3, 4, 11, 12, 13, GREATEST}) {
            bad("inflow(" + t + ")", desk -> desk.inflow(t));
        }
        CHECKS.sentence("LOSS of a VOLUME (0 .. 999). BAD.");
        badBeyond("loss", 0, 999, YieldDesk::loss);
        CHECKS.sentence("m(L). BAD.");
        for (int l : new int[] {LEAST, -2, -1, 4, 5, 11, 12, 13, GREATEST}) {
            bad("lowest(" + l + ")", desk -> desk.lowest(l));
        }
        CHECKS.sentence("NEED of q (0 .. 99); NONE. BAD.");
        badBeyond("need", 0, 99, YieldDesk::need);
        CHECKS.sentence("LEAST CAP; NONE. BAD.");
        badBeyond("least", 1, 120, YieldDesk::least);
        CHECKS.sentence("ROUND: the earlier one, by n (what = 0), how many times n (1), how many FAIL (2). BAD.");
        badBeyond("round", 0, 2, YieldDesk::round);
        CHECKS.sentence("VOLUME behind PERIOD t (0 .. 999) of the FULL RUN. BAD.");
        badBeyond("run", 0, 999, YieldDesk::run);
        CHECKS.sentence("DRAFTS: how many (what = 0), the least (1; NONE). BAD.");
        badBeyond("fits", 0, 1, YieldDesk::fits);
        CHECKS.sentence("11 how many may be UNDONE. BAD.");
        badBeyond("count", 0, 11, YieldDesk::count);
    }

    private static void askedByMore() {
        CHECKS.sentence("SURE: upper (what = 0), lower number (1), in least terms. BAD.");
        badBeyond("sure, c", 0, 999, (desk, c) -> desk.sure(c, 0));
        badBeyond("sure, c", 0, 999, (desk, c) -> desk.sure(c, 1));
        badBeyond("sure, what", 0, 1, (desk, what) -> desk.sure(5, what));
        CHECKS.sentence("PIECES: how many (k = -1; what 0 alone), the k-th: L (what = 0)");
        for (int k : new int[] {LEAST, -100, -3, -2}) {
            for (int what = 0; what <= 2; what++) {
                int asked = what;
                bad("piece(" + k + ", " + what + ")", desk -> desk.piece(k, asked));
            }
        }
        badBeyond("piece of -1, what", 0, 0, (desk, what) -> desk.piece(-1, what));
        badBeyond("piece of 0, what", 0, 2, (desk, what) -> desk.piece(0, what));
        badBeyond("piece that is not, what", 0, 2, (desk, what) -> desk.piece(GREATEST, what));
        CHECKS.sentence("ODDS of k (0 to 8), x (0 to 10)");
        badBeyond("odds, k", 0, 8, (desk, k) -> desk.odds(k, 5, 0));
        badBeyond("odds, x", 0, 10, (desk, x) -> desk.odds(3, x, 0));
        badBeyond("odds, x of none", 0, 10, (desk, x) -> desk.odds(0, x, 1));
        badBeyond("odds, what", 0, 1, (desk, what) -> desk.odds(3, 5, what));
    }

    private static void seeing() {
        CHECKS.sentence("VOLUME was v (0 to 999) behind PERIOD t (0 to 39)");
        badBeyond("sees, t", 0, 39, (desk, t) -> desk.sees(t, 0));
        badBeyond("sees, v", 0, 999, (desk, v) -> desk.sees(0, v));
        CHECKS.sentence("SEEN: how much there is. BAD; FULL: 6.");
        TWINS.unchanged("sees(0, 0)", YieldDesk.FULL, Pasts::full, desk -> desk.sees(0, 0));
        TWINS.unchanged("sees(39, 999)", YieldDesk.FULL, Pasts::full, desk -> desk.sees(39, 999));
        TWINS.unchanged("what is SEEN already", YieldDesk.FULL, Pasts::full, desk -> desk.sees(1, desk.run(1)));
    }

    private static void images() {
        CHECKS.sentence("An IMAGE is kept: TIME. BAD.");
        badBeyond("keep", 0, 1, YieldDesk::keep);
        CHECKS.sentence("All of that becomes as an IMAGE has it: TIME. BAD; STATE: none was kept.");
        badBeyond("back", 0, 1, YieldDesk::back);
        state("new: back(0)", Pasts::none, desk -> desk.back(0));
        state("new: back(1)", Pasts::none, desk -> desk.back(1));
        state("one image: back(1)", Pasts::oneImage, desk -> desk.back(1));
    }

    /** Part 3, "(Nothing is changed.)": the answers' own values are other tests' matter. */
    private static void answersChangeNothing() {
        CHECKS.sentence("(Nothing is changed.)");
        asks("inflow", desk -> desk.inflow(0));
        asks("loss", desk -> desk.loss(999));
        asks("lowest", desk -> desk.lowest(1));
        asks("need", desk -> desk.need(2));
        asks("sure", desk -> desk.sure(7, 0));
        asks("piece -1", desk -> desk.piece(-1, 0));
        asks("piece", desk -> desk.piece(0, 2));
        asks("piece that is not", desk -> desk.piece(13, 0));
        asks("least", desk -> desk.least(120));
        asks("round", desk -> desk.round(2));
        asks("run", desk -> desk.run(999));
        asks("odds", desk -> desk.odds(8, 5, 0));
        asks("fits", desk -> desk.fits(0));
        asks("fits, the least", desk -> desk.fits(1));
        asks("look", YieldDesk::look);
        asks("count", desk -> desk.count(8));
    }

    private static void asks(String call, ToIntFunction<YieldDesk> asked) {
        List<Consumer<YieldDesk>> pasts = List.of(Pasts::none, Pasts::oneImage, Pasts::much, Pasts::full);
        for (Consumer<YieldDesk> past : pasts) {
            YieldDesk other = new YieldDesk();
            past.accept(other);
            TWINS.unchanged(call, asked.applyAsInt(other), past, asked);
        }
    }
}
