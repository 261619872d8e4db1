/** Promises 1 to 4: a new object, and THE TEXT. */
public final class TextTest {
    private static final String TEN = "e 0 1 2 3 4 5 6 7 8 9;";
    private static final Checks CHECKS = new Checks();

    public static void main(String[] args) {
        newObject();
        typing();
        clearing();
        tellingAll();
        tellingAnew();
        faultsOfPlace();
        faultsOfNumbers();
        faultsOfEnd();
        CHECKS.end();
    }

    private static void newObject() {
        YieldDesk desk = new YieldDesk();
        int[] atFirst = {1, 0, 0, 0, 0, 0, 0, 0, 0, 0, 0, 0};
        for (int what = 0; what < atFirst.length; what++) {
            CHECKS.due("new: count(" + what + ")", atFirst[what], desk.count(what));
        }
        CHECKS.due("new: inflow(0)", 0, desk.inflow(0));
        for (int v = 99; v <= 999; v += 100) {
            CHECKS.due("new: loss(" + v + ")", 0, desk.loss(v));
        }
        CHECKS.due("new: undo()", YieldDesk.STATE, desk.undo());
        CHECKS.due("new: back(0)", YieldDesk.STATE, desk.back(0));
        CHECKS.due("new: forget()", 0, desk.forget());
        CHECKS.due("new: clear()", 0, desk.clear());
    }

    private static void typing() {
        YieldDesk desk = new YieldDesk();
        CHECKS.due("type(-1)", YieldDesk.BAD, desk.type(-1));
        CHECKS.due("type(256)", YieldDesk.BAD, desk.type(256));
        CHECKS.due("type(0)", 1, desk.type(0));
        CHECKS.due("type(255)", 2, desk.type(255));
        for (int i = 3; i <= 120; i++) {
            CHECKS.due("type(32)", i, desk.type(32));
        }
        CHECKS.due("the 121st letter", YieldDesk.FULL, desk.type(32));
        CHECKS.due("a bad 121st letter", YieldDesk.BAD, desk.type(256));
        CHECKS.due("a bad 121st letter", YieldDesk.BAD, desk.type(Integer.MIN_VALUE));
        CHECKS.due("letters", 120, desk.count(10));
    }

    private static void clearing() {
        YieldDesk desk = new YieldDesk();
        Checks.type(desk, "x 1");
        CHECKS.due("clear()", 3, desk.clear());
        CHECKS.due("clear() again", 0, desk.clear());
        CHECKS.due("letters", 0, desk.count(10));
        Checks.type(desk, "d1;");
        CHECKS.due("tells() behind clear()", 1, desk.tells());
        CHECKS.due("DRAFT", 1, desk.count(1));
    }

    private static void tellingAll() {
        YieldDesk desk = new YieldDesk();
        CHECKS.due("all", 4, Checks.tell(desk, "  " + TEN + "c999;d99;i 1 2 3 4 5 6 7 8 9 10 11 99; "));
        CHECKS.due("n", 12, desk.count(0));
        CHECKS.due("DRAFT", 99, desk.count(1));
        CHECKS.due("CAP", 999, desk.count(2));
        CHECKS.due("VOLUME", 999, desk.count(4));
        CHECKS.due("TOTAL", 165, desk.count(8));
        CHECKS.due("letters", 0, desk.count(10));
        CHECKS.due("INFLOW 0", 1, desk.inflow(0));
        CHECKS.due("INFLOW 11", 99, desk.inflow(11));
        for (int v = 0; v <= 999; v += 9) {
            CHECKS.due("LOSS of " + v, v / 100, desk.loss(v));
        }
        CHECKS.due("zeros", 4, Checks.tell(desk, "i 0;d 0;c 0;e 0 0 0 0 0 0 0 0 0 0;"));
        CHECKS.due("blanks about", 2, Checks.tell(desk, " d  7  ;  c  8  ;  "));
        CHECKS.due("none about", 2, Checks.tell(desk, "i3 4;d5;"));
        CHECKS.due("n", 2, desk.count(0));
        CHECKS.due("blanks alone", 0, Checks.tell(desk, "   "));
        Checks.tell(desk, "i 3 4;d 5;c 6;" + TEN);
        CHECKS.due("nothing", 0, Checks.tell(desk, ""));
        CHECKS.due("as at first", Checks.stateOf(new YieldDesk()).equals(Checks.stateOf(desk)));
        desk.undo();
        CHECKS.due("DRAFT undone", 5, desk.count(1));
        YieldDesk full = new YieldDesk();
        StringBuilder wide = new StringBuilder("c 45");
        while (wide.length() < 119) {
            wide.append(' ');
        }
        CHECKS.due("120 letters", 1, Checks.tell(full, wide.append(';').toString()));
        CHECKS.due("CAP", 45, full.count(2));
    }

    private static void tellingAnew() {
        YieldDesk desk = Checks.deskOf("i 1 2 3;d 40;c 50;" + TEN);
        desk.passes(3);
        desk.sees(1, 2);
        CHECKS.due("SHORT stands ahead", desk.count(6) > 0);
        CHECKS.due("anew", 1, Checks.tell(desk, "c 70;"));
        int[] want = {1, 0, 70, 0, 70, 0, 0, 0, 0, 1, 0, 3};
        for (int what = 0; what < want.length; what++) {
            CHECKS.due("anew: count(" + what + ")", want[what], desk.count(what));
        }
        CHECKS.due("INFLOW anew", 0, desk.inflow(0));
        CHECKS.due("LOSS anew", 0, desk.loss(999));
        String ahead = Checks.stateOf(desk);
        CHECKS.due("a fault", -13, Checks.tell(desk, "d 1x;"));
        CHECKS.due("nothing changes", ahead.equals(Checks.stateOf(desk)));
        CHECKS.due("nothing to undo comes", 3, desk.count(11));
        CHECKS.due("THE TEXT stays", 5, desk.count(10));
        CHECKS.due("the same again", -13, desk.tells());
    }

    private static void fault(String text, int place) {
        YieldDesk desk = Checks.deskOf("i 5 6;d 7;c 8;");
        String ahead = Checks.stateOf(desk);
        CHECKS.due("tells() of \"" + text + "\"", -10 - place, Checks.tell(desk, text));
        CHECKS.due("unchanged by \"" + text + "\"", ahead.equals(Checks.stateOf(desk)));
        CHECKS.due("letters of \"" + text + "\"", text.length(), desk.count(10));
    }

    private static void faultsOfPlace() {
        fault(";", 0);
        fault(" ;", 1);
        fault("12", 0);
        fault("x", 0);
        fault("  x", 2);
        fault("\t", 0);
        fault("I 1;", 0);
        fault("d1;\n", 3);
        fault("d1;" + (char) 255, 3);
        fault("d1;" + (char) 0, 3);
        fault("d;", 1);
        fault("c ;", 2);
        fault("i  ;", 3);
        fault("e;", 1);
        fault("d d", 2);
        fault("d c 1;", 2);
        fault("i 1 c 2;", 4);
        fault("d 1 2;", 4);
        fault("c 1 2;", 4);
        fault("d 1;;", 4);
        fault("d 1; 5;", 5);
        fault("d 1;c 2;d 3;", 8);
        fault("i 1;i 1;", 4);
        fault("c 1;c 1;", 4);
        fault(TEN + TEN, TEN.length());
        fault("d 1-2;", 3);
    }

    private static void faultsOfNumbers() {
        fault("i 1 2 3 4 5 6 7 8 9 10 11 12 13;", 29);
        fault("e 1 2 3 4 5 6 7 8 9 0 1;", 22);
        fault("e 1 2 3 4 5 6 7 8 9;", 19);
        fault("i 99 100;", 5);
        fault("d 100;", 2);
        fault("d   100;", 4);
        fault("c 1000;", 2);
        fault("c 99999999999999999999;", 2);
        fault("c 4294967297;", 2);
        fault("e 9 10;", 4);
        fault("d 00;", 2);
        fault("i 1 01;", 4);
        fault("1000", 0);
        fault("d 007", 2);
    }

    private static void faultsOfEnd() {
        fault("i", 1);
        fault("d ", 2);
        fault("d 1", 3);
        fault("d 1  ", 5);
        fault("i 1 2 3 4 5 6 7 8 9 10 11 12", 28);
        fault("e 1 2 3", 7);
        fault("d 1;c", 5);
    }
}
