/** What objects have been through ahead of a call that must change nothing. */
final class Pasts {
    private Pasts() {
    }

    static void none(YieldDesk desk) {
    }

    /** All that can be other than at first is: undone, images, SEEN, THE TEXT. */
    static void much(YieldDesk desk) {
        Checks.tell(desk, "i 10 0 3;d 6;c 8;e 1 2 3 4 5 6 7 8 9 0;");
        desk.passes(4);
        desk.drafts(5);
        desk.keep(0);
        desk.caps(9);
        desk.flows(1, 2);
        desk.passes(2);
        desk.keep(1);
        desk.drafts(4);
        desk.sees(0, 9);
        desk.sees(1, 6);
        Checks.type(desk, "i 7 5;c 3;");
    }

    static void oneImage(YieldDesk desk) {
        Checks.tell(desk, "i 10 0 3;d 6;c 8;");
        desk.keep(0);
        desk.passes(4);
        Checks.type(desk, "d 5;");
    }

    /** THE TEXT has its 120 letters, SEEN its 6, and TIME is 999. */
    static void full(YieldDesk desk) {
        much(desk);
        Checks.passTo(desk, 999);
        desk.clear();
        Checks.type(desk, "c 45".concat(" ".repeat(115)).concat(";"));
        desk.forget();
        for (int i = 0; i < 6; i++) {
            desk.sees(i, desk.run(i));
        }
    }

    /** As much(), but with this text behind it. */
    static void typed(YieldDesk desk, String text) {
        much(desk);
        desk.clear();
        Checks.type(desk, text);
    }
}
