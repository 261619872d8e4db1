/** Promises 24 to 26: images, and the counts. */
public final class ImagesTest {
    private static final Checks CHECKS = new Checks();

    public static void main(String[] args) {
        keeping();
        goingBack();
        counting();
        CHECKS.end();
    }

    private static void keeping() {
        YieldDesk desk = new YieldDesk();
        CHECKS.due("keep(-1)", YieldDesk.BAD, desk.keep(-1));
        CHECKS.due("keep(2)", YieldDesk.BAD, desk.keep(2));
        CHECKS.due("back(-1)", YieldDesk.BAD, desk.back(-1));
        CHECKS.due("back(2)", YieldDesk.BAD, desk.back(2));
        CHECKS.due("back(0)", YieldDesk.STATE, desk.back(0));
        CHECKS.due("keep(0)", 0, desk.keep(0));
        CHECKS.due("back(1)", YieldDesk.STATE, desk.back(1));
        desk.passes(12);
        CHECKS.due("keep(1)", 12, desk.keep(1));
        CHECKS.due("a refused back() loses nothing", 1, desk.count(11));
        CHECKS.due("back(0)", 0, desk.back(0));
        CHECKS.due("back(1)", 12, desk.back(1));
        desk.passes(1);
        CHECKS.due("kept over the older one", 13, desk.keep(1));
        desk.passes(1);
        CHECKS.due("back(1)", 13, desk.back(1));
    }

    private static void goingBack() {
        YieldDesk desk = Checks.deskOf("i 9 1;d 7;c 5;e 1 2 0 0 0 0 0 0 0 2;");
        desk.passes(5);
        desk.caps(2);
        String kept = Checks.stateOf(desk);
        desk.keep(0);
        Checks.tell(desk, "i 1 2 3;c 9;");
        desk.flows(2, 4);
        desk.sees(1, 1);
        Checks.type(desk, "d 3;");
        String other = Checks.stateOf(desk);
        desk.keep(1);
        CHECKS.due("known ahead", 5, desk.count(11));
        CHECKS.due("back(0)", 5, desk.back(0));
        CHECKS.due("as kept", kept.equals(Checks.stateOf(desk)));
        CHECKS.due("nothing can be UNDONE", 0, desk.count(11));
        CHECKS.due("undo()", YieldDesk.STATE, desk.undo());
        CHECKS.due("SEEN stands", 1, desk.count(9));
        CHECKS.due("THE TEXT stands", 4, desk.count(10));
        desk.drafts(1);
        CHECKS.due("UNDONE behind it", 0, desk.undo());
        CHECKS.due("as kept", kept.equals(Checks.stateOf(desk)));
        CHECKS.due("back(1)", 0, desk.back(1));
        CHECKS.due("as kept in 1", other.equals(Checks.stateOf(desk)));
        desk.passes(9);
        CHECKS.due("back(0) again", 5, desk.back(0));
        CHECKS.due("as kept", kept.equals(Checks.stateOf(desk)));
        CHECKS.due("THE TEXT tells", 1, desk.tells());
        CHECKS.due("known", 1, desk.count(11));
    }

    private static void counting() {
        YieldDesk desk = Checks.deskOf("i 10 0 3;d 6;c 8;");
        desk.passes(9);
        desk.sees(0, 1);
        desk.sees(0, 2);
        Checks.type(desk, "cde");
        int[] want = {3, 6, 8, 9, 0, 5, 11, 4, 13, 2, 3, 2};
        for (int what = 0; what < want.length; what++) {
            CHECKS.due("count(" + what + ")", want[what], desk.count(what));
        }
        CHECKS.due("count(-1)", YieldDesk.BAD, desk.count(-1));
        CHECKS.due("count(12)", YieldDesk.BAD, desk.count(12));
        CHECKS.due("count(MAX)", YieldDesk.BAD, desk.count(Integer.MAX_VALUE));
    }
}
