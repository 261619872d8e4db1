/** Promises 5 to 9: what is done and undone. */
public final class DoneTest {
    private static final Checks CHECKS = new Checks();

    public static void main(String[] args) {
        passing();
        passingByLoss();
        passingToTheEnd();
        drafting();
        capping();
        flowing();
        undoing();
        undoingTheLastSixAlone();
        CHECKS.end();
    }

    private static void state(YieldDesk desk, String when, int... want) {
        for (int i = 0; i < want.length; i++) {
            CHECKS.due(when + ": count(" + (i + 3) + ")", want[i], desk.count(i + 3));
        }
    }

    private static void passing() {
        YieldDesk desk = Checks.deskOf("i 10 0 3;d 6;c 8;");
        CHECKS.due("PERIOD 0 spills", 0, desk.passes(1));
        state(desk, "behind 0", 1, 8, 0, 0, 4);
        CHECKS.due("PERIOD 1", 0, desk.passes(1));
        state(desk, "behind 1", 2, 2, 0, 0, 4);
        CHECKS.due("PERIOD 2 fails", 1, desk.passes(1));
        state(desk, "behind 2", 3, 0, 1, 1, 4);
        CHECKS.due("four fail of six", 4, desk.passes(6));
        state(desk, "behind 8", 9, 0, 5, 11, 4);
        YieldDesk exact = Checks.deskOf("i 1;d 3;c 2;");
        CHECKS.due("0 is no failing", 0, exact.passes(1));
        state(exact, "at 0", 1, 0, 0, 0, 0);
        YieldDesk brim = Checks.deskOf("i 3;d 3;c 2;");
        CHECKS.due("CAP is no spilling", 0, brim.passes(99));
        state(brim, "at CAP", 99, 2, 0, 0, 0);
    }

    private static void passingByLoss() {
        YieldDesk desk = Checks.deskOf("c 200;e 5 1 9 0 0 0 0 0 0 0;i 0 99;d 0;");
        desk.passes(1);
        state(desk, "200 loses 9", 1, 191, 0, 0, 0);
        desk.passes(1);
        state(desk, "191 loses 1, then spills", 2, 200, 0, 0, 89);
        YieldDesk dry = Checks.deskOf("e 5 0 0 0 0 0 0 0 0 0;");
        CHECKS.due("the sun alone fails it", 2, dry.passes(2));
        state(dry, "dry", 2, 0, 2, 10, 0);
    }

    private static void passingToTheEnd() {
        YieldDesk desk = new YieldDesk();
        CHECKS.due("passes(0)", YieldDesk.BAD, desk.passes(0));
        CHECKS.due("passes(-1)", YieldDesk.BAD, desk.passes(-1));
        CHECKS.due("passes(100)", YieldDesk.BAD, desk.passes(100));
        CHECKS.due("passes(MAX)", YieldDesk.BAD, desk.passes(Integer.MAX_VALUE));
        for (int i = 0; i < 10; i++) {
            CHECKS.due("passes(99)", 0, desk.passes(99));
        }
        CHECKS.due("to 1000", YieldDesk.STATE, desk.passes(10));
        CHECKS.due("BAD goes ahead of STATE", YieldDesk.BAD, desk.passes(100));
        CHECKS.due("to 999", 0, desk.passes(9));
        CHECKS.due("TIME", 999, desk.count(3));
        CHECKS.due("no more", YieldDesk.STATE, desk.passes(1));
        CHECKS.due("known", 6, desk.count(11));
    }

    private static void drafting() {
        YieldDesk desk = new YieldDesk();
        CHECKS.due("drafts(0)", YieldDesk.STATE, desk.drafts(0));
        CHECKS.due("drafts(-1)", YieldDesk.BAD, desk.drafts(-1));
        CHECKS.due("drafts(100)", YieldDesk.BAD, desk.drafts(100));
        CHECKS.due("nothing done", 0, desk.count(11));
        CHECKS.due("drafts(99)", 0, desk.drafts(99));
        CHECKS.due("drafts(4)", 99, desk.drafts(4));
        CHECKS.due("DRAFT", 4, desk.count(1));
        CHECKS.due("passes by it", 2, desk.passes(2));
        CHECKS.due("SHORT", 8, desk.count(6));
    }

    private static void capping() {
        YieldDesk desk = Checks.deskOf("c 50;");
        CHECKS.due("caps(50)", YieldDesk.STATE, desk.caps(50));
        CHECKS.due("caps(-1)", YieldDesk.BAD, desk.caps(-1));
        CHECKS.due("caps(1000)", YieldDesk.BAD, desk.caps(1000));
        CHECKS.due("more room", 50, desk.caps(999));
        state(desk, "more room", 0, 50, 0, 0, 0);
        CHECKS.due("room enough", 999, desk.caps(50));
        state(desk, "room enough", 0, 50, 0, 0, 0);
        CHECKS.due("too little", 50, desk.caps(20));
        state(desk, "too little", 0, 20, 0, 0, 30);
        CHECKS.due("CAP", 20, desk.count(2));
        CHECKS.due("caps(0)", 20, desk.caps(0));
        state(desk, "none", 0, 0, 0, 0, 50);
    }

    private static void flowing() {
        YieldDesk desk = Checks.deskOf("i 5 6 7;c 99;");
        CHECKS.due("flows(3, 1)", YieldDesk.BAD, desk.flows(3, 1));
        CHECKS.due("flows(-1, 1)", YieldDesk.BAD, desk.flows(-1, 1));
        CHECKS.due("flows(0, 100)", YieldDesk.BAD, desk.flows(0, 100));
        CHECKS.due("flows(0, -1)", YieldDesk.BAD, desk.flows(0, -1));
        CHECKS.due("flows(12, 1)", YieldDesk.BAD, desk.flows(12, 1));
        CHECKS.due("flows(2, 7)", YieldDesk.STATE, desk.flows(2, 7));
        CHECKS.due("flows(2, 99)", 7, desk.flows(2, 99));
        CHECKS.due("flows(0, 0)", 5, desk.flows(0, 0));
        CHECKS.due("INFLOW 2", 99, desk.inflow(2));
        CHECKS.due("TOTAL", 105, desk.count(8));
        CHECKS.due("known", 3, desk.count(11));
    }

    private static void undoing() {
        YieldDesk desk = new YieldDesk();
        String[] states = new String[6];
        states[0] = Checks.stateOf(desk);
        Checks.tell(desk, "i 9 1;d 7;c 5;e 1 0 0 0 0 0 0 0 0 2;");
        states[1] = Checks.stateOf(desk);
        desk.passes(5);
        states[2] = Checks.stateOf(desk);
        desk.drafts(2);
        states[3] = Checks.stateOf(desk);
        desk.caps(1);
        states[4] = Checks.stateOf(desk);
        desk.flows(1, 50);
        Checks.type(desk, "abc");
        desk.sees(3, 4);
        desk.keep(1);
        for (int i = 4; i >= 0; i--) {
            CHECKS.due("undo()", i, desk.undo());
            CHECKS.due("as ahead, " + i, states[i].equals(Checks.stateOf(desk)));
            CHECKS.due("count(11)", i, desk.count(11));
        }
        CHECKS.due("none", YieldDesk.STATE, desk.undo());
        CHECKS.due("THE TEXT stands", 3, desk.count(10));
        CHECKS.due("SEEN stands", 1, desk.count(9));
        CHECKS.due("the image stands", 5, desk.back(1));
    }

    private static void undoingTheLastSixAlone() {
        YieldDesk desk = new YieldDesk();
        for (int q = 1; q <= 9; q++) {
            desk.drafts(q);
            desk.drafts(q);
            desk.passes(0);
            CHECKS.due("known", Math.min(q, 6), desk.count(11));
        }
        for (int q = 8; q >= 3; q--) {
            CHECKS.due("undo()", q - 3, desk.undo());
            CHECKS.due("DRAFT", q, desk.count(1));
        }
        CHECKS.due("older ones are lost", YieldDesk.STATE, desk.undo());
        CHECKS.due("DRAFT", 3, desk.count(1));
        desk.drafts(50);
        CHECKS.due("undo() of the new one", 0, desk.undo());
        CHECKS.due("DRAFT", 3, desk.count(1));
    }
}
