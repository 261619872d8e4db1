/** Promises 10 to 15: inflows, losses, LINES, NEED, SURE, PIECES. */
public final class AskedTest {
    private static final Checks CHECKS = new Checks();

    public static void main(String[] args) {
        inflowsAndLosses();
        lowestSums();
        needs();
        sures();
        pieces();
        CHECKS.end();
    }

    private static void inflowsAndLosses() {
        YieldDesk desk = Checks.deskOf("i 4 5;e 9 8 7 6 5 4 3 2 1 0;");
        CHECKS.due("inflow(0)", 4, desk.inflow(0));
        CHECKS.due("inflow(1)", 5, desk.inflow(1));
        CHECKS.due("inflow(2)", YieldDesk.BAD, desk.inflow(2));
        CHECKS.due("inflow(-1)", YieldDesk.BAD, desk.inflow(-1));
        CHECKS.due("loss(0)", 9, desk.loss(0));
        CHECKS.due("loss(99)", 9, desk.loss(99));
        CHECKS.due("loss(100)", 8, desk.loss(100));
        CHECKS.due("loss(999)", 0, desk.loss(999));
        CHECKS.due("loss(-1)", YieldDesk.BAD, desk.loss(-1));
        CHECKS.due("loss(1000)", YieldDesk.BAD, desk.loss(1000));
    }

    private static void lowestSums() {
        YieldDesk desk = Checks.deskOf("i 2 9 9 1 3;");
        int[] sums = {0, 1, 4, 6, 15, 24};
        for (int l = 0; l < sums.length; l++) {
            CHECKS.due("lowest(" + l + ")", sums[l], desk.lowest(l));
        }
        CHECKS.due("lowest(6)", YieldDesk.BAD, desk.lowest(6));
        CHECKS.due("lowest(-1)", YieldDesk.BAD, desk.lowest(-1));
        desk.flows(3, 10);
        CHECKS.due("lowest(1) then", 2, desk.lowest(1));
        Checks.tell(desk, "i 7;");
        CHECKS.due("lowest(1) of one", 7, desk.lowest(1));
        CHECKS.due("lowest(2) of one", YieldDesk.BAD, desk.lowest(2));
    }

    private static void needs() {
        YieldDesk desk = Checks.deskOf("i 2 9 9 1 3;e 9 9 9 9 9 9 9 9 9 9;");
        int[] needs = {0, 0, 1, 3, 6, YieldDesk.NONE};
        for (int q = 0; q < needs.length; q++) {
            CHECKS.due("need(" + q + ")", needs[q], desk.need(q));
        }
        CHECKS.due("need(99)", YieldDesk.NONE, desk.need(99));
        CHECKS.due("need(100)", YieldDesk.BAD, desk.need(100));
        CHECKS.due("need(-1)", YieldDesk.BAD, desk.need(-1));
        YieldDesk mean = Checks.deskOf("i 99 0 99 99 99 99;d 5;");
        CHECKS.due("need above the mean", YieldDesk.NONE, mean.need(83));
        CHECKS.due("need below the mean", 82, mean.need(82));
        CHECKS.due("need at the mean", 0, Checks.deskOf("i 99;").need(99));
    }

    private static void sure(YieldDesk desk, int c, int upper, int lower) {
        CHECKS.due("sure(" + c + ", 0)", upper, desk.sure(c, 0));
        CHECKS.due("sure(" + c + ", 1)", lower, desk.sure(c, 1));
    }

    private static void sures() {
        YieldDesk desk = Checks.deskOf("i 2 9 9 1 3;");
        sure(desk, 0, 1, 1);
        sure(desk, 1, 2, 1);
        sure(desk, 2, 8, 3);
        sure(desk, 3, 3, 1);
        sure(desk, 6, 4, 1);
        sure(desk, 7, 13, 3);
        sure(desk, 8, 14, 3);
        sure(desk, 9, 24, 5);
        sure(desk, 999, 24, 5);
        sure(Checks.deskOf("i 0;"), 0, 0, 1);
        sure(Checks.deskOf("i 0 0;"), 999, 0, 1);
        sure(Checks.deskOf("i 6 2;"), 999, 4, 1);
        CHECKS.due("sure(-1, 0)", YieldDesk.BAD, desk.sure(-1, 0));
        CHECKS.due("sure(1000, 0)", YieldDesk.BAD, desk.sure(1000, 0));
        CHECKS.due("sure(0, -1)", YieldDesk.BAD, desk.sure(0, -1));
        CHECKS.due("sure(0, 2)", YieldDesk.BAD, desk.sure(0, 2));
    }

    private static void piece(YieldDesk desk, int k, int l, int upper, int lower) {
        CHECKS.due("piece(" + k + ", 0)", l, desk.piece(k, 0));
        CHECKS.due("piece(" + k + ", 1)", upper, desk.piece(k, 1));
        CHECKS.due("piece(" + k + ", 2)", lower, desk.piece(k, 2));
    }

    private static void pieces() {
        // m: 0 1 4 6 15 24. Lines 1 and 3 meet at q = 5/2; line 2 has 1 there, below their 3/2.
        YieldDesk desk = Checks.deskOf("i 2 9 9 1 3;");
        CHECKS.due("piece(-1, 0)", 3, desk.piece(-1, 0));
        piece(desk, 0, 0, 0, 1);
        piece(desk, 1, 1, 1, 1);
        piece(desk, 2, 3, 5, 2);
        piece(desk, 3, YieldDesk.NONE, YieldDesk.NONE, YieldDesk.NONE);
        CHECKS.due("piece(MAX, 0)", YieldDesk.NONE, desk.piece(Integer.MAX_VALUE, 0));
        CHECKS.due("piece(MAX, 3)", YieldDesk.BAD, desk.piece(Integer.MAX_VALUE, 3));
        CHECKS.due("piece(-2, 0)", YieldDesk.BAD, desk.piece(-2, 0));
        CHECKS.due("piece(-1, 1)", YieldDesk.BAD, desk.piece(-1, 1));
        CHECKS.due("piece(-1, 2)", YieldDesk.BAD, desk.piece(-1, 2));
        CHECKS.due("piece(-1, -1)", YieldDesk.BAD, desk.piece(-1, -1));
        CHECKS.due("piece(0, 3)", YieldDesk.BAD, desk.piece(0, 3));
        CHECKS.due("piece(0, -1)", YieldDesk.BAD, desk.piece(0, -1));
        YieldDesk dry = Checks.deskOf("i 0 0 0;");
        CHECKS.due("none of MEAN 0", 0, dry.piece(-1, 0));
        piece(dry, 0, YieldDesk.NONE, YieldDesk.NONE, YieldDesk.NONE);
        YieldDesk even = Checks.deskOf("i 8 8 8;");
        CHECKS.due("even", 1, even.piece(-1, 0));
        piece(even, 0, 0, 0, 1);
        // Lines 1, 2 and 3 meet in one point, q = 4: line 2 is NEED for that one q alone.
        YieldDesk touch = Checks.deskOf("i 9 9 0 4 4;");
        CHECKS.due("touching: m(2)", 4, touch.lowest(2));
        CHECKS.due("touching: m(3)", 8, touch.lowest(3));
        CHECKS.due("touching", 2, touch.piece(-1, 0));
        piece(touch, 0, 1, 0, 1);
        piece(touch, 1, 3, 4, 1);
    }
}
