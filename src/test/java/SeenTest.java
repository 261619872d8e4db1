/** Promises 20 to 23: what was SEEN, the DRAFTS that fit, LOOK. */
public final class SeenTest {
    private static final Checks CHECKS = new Checks();

    public static void main(String[] args) {
        seeing();
        fitting();
        fittingAsItIsNow();
        looking();
        CHECKS.end();
    }

    private static void seeing() {
        YieldDesk desk = new YieldDesk();
        CHECKS.due("sees(-1, 0)", YieldDesk.BAD, desk.sees(-1, 0));
        CHECKS.due("sees(40, 0)", YieldDesk.BAD, desk.sees(40, 0));
        CHECKS.due("sees(0, -1)", YieldDesk.BAD, desk.sees(0, -1));
        CHECKS.due("sees(0, 1000)", YieldDesk.BAD, desk.sees(0, 1000));
        CHECKS.due("sees(0, 0)", 1, desk.sees(0, 0));
        CHECKS.due("the same again", 2, desk.sees(0, 0));
        CHECKS.due("sees(39, 999)", 3, desk.sees(39, 999));
        for (int i = 4; i <= 6; i++) {
            CHECKS.due("sees(" + i + ", 1)", i, desk.sees(i, 1));
        }
        CHECKS.due("a seventh", YieldDesk.FULL, desk.sees(1, 1));
        CHECKS.due("a bad seventh", YieldDesk.BAD, desk.sees(40, 1));
        CHECKS.due("SEEN", 6, desk.count(9));
        CHECKS.due("not UNDONE", YieldDesk.STATE, desk.undo());
        CHECKS.due("forget()", 6, desk.forget());
        CHECKS.due("forget() again", 0, desk.forget());
        CHECKS.due("SEEN", 0, desk.count(9));
        CHECKS.due("sees(0, 0) anew", 1, desk.sees(0, 0));
    }

    private static void fit(YieldDesk desk, int number, int least) {
        CHECKS.due("fits(0)", number, desk.fits(0));
        CHECKS.due("fits(1)", least, desk.fits(1));
    }

    private static void fitting() {
        YieldDesk desk = Checks.deskOf("i 10 0;d 50;c 30;");
        fit(desk, 100, 0);
        desk.sees(0, 30);
        fit(desk, 11, 0);
        desk.sees(1, 22);
        fit(desk, 1, 8);
        desk.sees(1, 21);
        fit(desk, 0, YieldDesk.NONE);
        desk.forget();
        desk.sees(0, 0);
        fit(desk, 60, 40);
        desk.forget();
        desk.sees(39, 0);
        desk.sees(0, 34);
        fit(desk, 0, YieldDesk.NONE);
        CHECKS.due("fits(-1)", YieldDesk.BAD, desk.fits(-1));
        CHECKS.due("fits(2)", YieldDesk.BAD, desk.fits(2));
        CHECKS.due("DRAFT stands", 50, desk.count(1));
    }

    private static void fittingAsItIsNow() {
        YieldDesk desk = Checks.deskOf("i 10;c 30;");
        desk.passes(7);
        desk.sees(0, 20);
        fit(desk, 1, 20);
        desk.caps(20);
        fit(desk, 11, 0);
        desk.flows(0, 0);
        fit(desk, 1, 0);
        Checks.tell(desk, "c 25;e 2 0 0 0 0 0 0 0 0 0;");
        fit(desk, 1, 3);
        desk.undo();
        fit(desk, 1, 0);
        CHECKS.due("SEEN", 1, desk.count(9));
    }

    private static void looking() {
        YieldDesk desk = new YieldDesk();
        CHECKS.due("all alike", 0, desk.look());
        Checks.tell(desk, "c 999;");
        CHECKS.due("all differ at once", 0, desk.look());
        // Behind PERIOD 0 eleven drafts are at CAP; behind PERIOD 1 each has a VOLUME of its own.
        Checks.tell(desk, "i 10 0;c 300;");
        CHECKS.due("better later", 1, desk.look());
        desk.sees(0, 300);
        CHECKS.due("fits(0)", 11, desk.fits(0));
        CHECKS.due("of eleven", 1, desk.look());
        desk.sees(1, 295);
        CHECKS.due("one alone", YieldDesk.NONE, desk.look());
        desk.sees(1, 294);
        CHECKS.due("none", YieldDesk.NONE, desk.look());
        desk.forget();
        Checks.tell(desk, "i 99;c 5;");
        desk.sees(0, 5);
        CHECKS.due("those that never differ, the earliest", 0, desk.look());
        // All are at CAP until the one dry PERIOD tells them apart.
        Checks.tell(desk, "i 99 99 99 99 99 99 99 99 99 99 99 0;c 99;");
        desk.forget();
        CHECKS.due("the last of twelve", 11, desk.look());
    }
}
