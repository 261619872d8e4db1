import java.math.BigInteger;

/** The boundary cases of LINES, NEED, SURE and PIECES: part 3's first sentences, promises 10 to 15. */
public final class LinesBoundsTest {
    private static final Checks CHECKS = new Checks();

    public static void main(String[] args) {
        everyLoss();
        everyLength();
        leastSumsWrapAround();
        everyNeed();
        needAtTheMean();
        everySure();
        sureAtTheEnds();
        noPieces();
        piecesAtTheEnds();
        mostPieces();
        notSoMany();
        CHECKS.end();
    }

    private static String inflows(int from, int n) {
        StringBuilder text = new StringBuilder("i");
        for (int t = 0; t < n; t++) {
            text.append(' ').append(from + t);
        }
        return text.append(';').toString();
    }

    private static void everyLoss() {
        CHECKS.sentence("LOSS of a VOLUME (0 .. 999). BAD.");
        for (int v = -101; v <= 1100; v++) {
            YieldDesk desk = Checks.deskOf("e 9 8 7 6 5 4 3 2 1 0;");
            CHECKS.due("loss(" + v + ")", v < 0 || v > 999 ? YieldDesk.BAD : 9 - v / 100, desk.loss(v));
        }
    }

    private static void everyLength() {
        CHECKS.sentence("for each L from 0 to n, m(L) is the least sum of INFLOWS of L PERIODS one behind another");
        for (int n = 1; n <= 12; n++) {
            YieldDesk desk = Checks.deskOf(inflows(1, n));
            for (int l = -3; l <= 15; l++) {
                boolean isTaken = l >= 0 && l <= n;
                CHECKS.due("lowest(" + l + ") of " + n, isTaken ? l * (l + 1) / 2 : YieldDesk.BAD, desk.lowest(l));
            }
            CHECKS.due("m(n) is TOTAL", desk.count(8), desk.lowest(n));
        }
        YieldDesk most = Checks.deskOf("i 99 99 99 99 99 99 99 99 99 99 99 99;");
        CHECKS.due("the greatest m", 1188, most.lowest(12));
        CHECKS.due("TOTAL", 1188, most.count(8));
        YieldDesk first = new YieldDesk();
        CHECKS.due("lowest(0) at first", 0, first.lowest(0));
        CHECKS.due("lowest(1) at first", 0, first.lowest(1));
        CHECKS.due("lowest(2) at first", YieldDesk.BAD, first.lowest(2));
    }

    private static void leastSumsWrapAround() {
        CHECKS.sentence("round and round; 0 of none");
        YieldDesk desk = Checks.deskOf("i 1 50 50 50 2;");
        int[] sums = {0, 1, 3, 53, 103, 153};
        for (int l = 0; l < sums.length; l++) {
            CHECKS.due("lowest(" + l + ")", sums[l], desk.lowest(l));
        }
        YieldDesk twelve = Checks.deskOf("i 0 3 90 90 90 90 90 90 90 90 2 1;");
        CHECKS.due("the last two and the first", 3, twelve.lowest(3));
        CHECKS.due("the last two and the first two", 6, twelve.lowest(4));
        CHECKS.due("all but one", 636, twelve.lowest(11));
        CHECKS.due("the last and the first", 1, twelve.lowest(2));
        twelve.passes(5);
        CHECKS.due("whatever TIME is", 3, twelve.lowest(3));
    }

    private static void everyNeed() {
        CHECKS.sentence("NEED of q (0 .. 99); NONE. BAD.");
        YieldDesk half = Checks.deskOf("i 0 99;");
        for (int q = -3; q <= 102; q++) {
            int want = q < 0 || q > 99 ? YieldDesk.BAD : q <= 49 ? q : YieldDesk.NONE;
            CHECKS.due("need(" + q + ")", want, half.need(q));
        }
        YieldDesk most = Checks.deskOf("i 99;");
        YieldDesk none = new YieldDesk();
        for (int q = -3; q <= 102; q++) {
            boolean isTaken = q >= 0 && q <= 99;
            CHECKS.due("need(" + q + ") of 99", isTaken ? 0 : YieldDesk.BAD, most.need(q));
            int want = !isTaken ? YieldDesk.BAD : q == 0 ? 0 : YieldDesk.NONE;
            CHECKS.due("need(" + q + ") of 0", want, none.need(q));
        }
    }

    private static void needAtTheMean() {
        CHECKS.sentence("NEED of a draft q (any number from 0 to MEAN): .. of a q above MEAN there is none");
        YieldDesk whole = Checks.deskOf("i 0 4 8;");
        CHECKS.due("at MEAN", 4, whole.need(4));
        CHECKS.due("above MEAN", YieldDesk.NONE, whole.need(5));
        YieldDesk below = Checks.deskOf("i 0 4 7;");
        CHECKS.due("4 above 11/3", YieldDesk.NONE, below.need(4));
        CHECKS.due("3 below 11/3", 3, below.need(3));
        YieldDesk above = Checks.deskOf("i 0 4 9;");
        CHECKS.due("4 below 13/3", 4, above.need(4));
        CHECKS.due("5 above 13/3", YieldDesk.NONE, above.need(5));
        YieldDesk twelve = Checks.deskOf("i 0 0 0 0 0 0 0 0 0 0 0 12;");
        CHECKS.due("at MEAN, eleven dry", 11, twelve.need(1));
        twelve.flows(11, 11);
        CHECKS.due("above 11/12", YieldDesk.NONE, twelve.need(1));
        YieldDesk greatest = Checks.deskOf("i 0 0 0 0 0 0 99 99 99 99 99 99;");
        CHECKS.due("six dry", 294, greatest.need(49));
        CHECKS.due("above 99/2", YieldDesk.NONE, greatest.need(50));
    }

    private static void sure(YieldDesk desk, int c, int upper, int lower) {
        int shared = BigInteger.valueOf(upper).gcd(BigInteger.valueOf(lower)).intValue();
        CHECKS.due("sure(" + c + ", 0)", upper / shared, desk.sure(c, 0));
        CHECKS.due("sure(" + c + ", 1)", lower / shared, desk.sure(c, 1));
    }

    private static void everySure() {
        CHECKS.sentence("SURE by c (0 to 999): the greatest q, a fraction, from 0 to MEAN of which NEED is c at most");
        for (int c = -3; c <= 1002; c++) {
            YieldDesk desk = Checks.deskOf("i 0 99;");
            if (c < 0 || c > 999) {
                CHECKS.due("sure(" + c + ", 0)", YieldDesk.BAD, desk.sure(c, 0));
                CHECKS.due("sure(" + c + ", 1)", YieldDesk.BAD, desk.sure(c, 1));
            } else {
                sure(desk, c, c <= 49 ? c : 99, c <= 49 ? 1 : 2);
            }
            // Eleven dry of twelve: NEED is 11 q, MEAN 99/12.
            YieldDesk dry = Checks.deskOf("i 0 0 0 0 0 0 0 0 0 0 0 99;");
            if (c >= 0 && c <= 999) {
                sure(dry, c, c <= 90 ? c : 99, c <= 90 ? 11 : 12);
            }
        }
        CHECKS.sentence("SURE: upper (what = 0), lower number (1), in least terms. BAD.");
        for (int what = -3; what <= 4; what++) {
            int want = what == 0 ? 99 : what == 1 ? 2 : YieldDesk.BAD;
            CHECKS.due("sure(999, " + what + ")", want, Checks.deskOf("i 0 99;").sure(999, what));
        }
    }

    private static void sureAtTheEnds() {
        CHECKS.sentence("the greatest q, a fraction, from 0 to MEAN");
        sure(new YieldDesk(), 0, 0, 1);
        sure(new YieldDesk(), 999, 0, 1);
        sure(Checks.deskOf("i 0 0 0 0 0 0 0 0 0 0 0 0;"), 999, 0, 1);
        sure(Checks.deskOf("i 99;"), 0, 99, 1);
        sure(Checks.deskOf("i 99 99 99;"), 999, 99, 1);
        sure(Checks.deskOf("i 5 9;"), 0, 5, 1);
        sure(Checks.deskOf("i 5 9;"), 1, 6, 1);
        sure(Checks.deskOf("i 5 9;"), 2, 7, 1);
        sure(Checks.deskOf("i 5 9;"), 3, 7, 1);
        sure(Checks.deskOf("i 0 0 0 0 0 0 0 0 0 0 0 1;"), 0, 0, 1);
        sure(Checks.deskOf("i 0 0 0 0 0 0 0 0 0 0 0 1;"), 1, 1, 12);
    }

    private static void piece(YieldDesk desk, int k, int l, int upper, int lower) {
        CHECKS.due("piece(" + k + ", 0)", l, desk.piece(k, 0));
        CHECKS.due("piece(" + k + ", 1)", upper, desk.piece(k, 1));
        CHECKS.due("piece(" + k + ", 2)", lower, desk.piece(k, 2));
    }

    private static void notThere(YieldDesk desk, int k) {
        piece(desk, k, YieldDesk.NONE, YieldDesk.NONE, YieldDesk.NONE);
    }

    private static void noPieces() {
        CHECKS.sentence("none, if MEAN is 0");
        for (int n = 1; n <= 12; n++) {
            YieldDesk dry = Checks.deskOf("i" + " 0".repeat(n) + ";");
            CHECKS.due("piece(-1, 0) of " + n, 0, dry.piece(-1, 0));
            notThere(dry, 0);
            notThere(dry, n);
            dry.flows(n - 1, 1);
            CHECKS.due("of one that is not 0", 1, dry.piece(-1, 0));
            piece(dry, 0, n - 1, 0, 1);
            notThere(dry, 1);
        }
        CHECKS.due("piece(-1, 0) at first", 0, new YieldDesk().piece(-1, 0));
    }

    private static void piecesAtTheEnds() {
        CHECKS.sentence("those L, in order, of which L times q, less m(L), is NEED for more than one q");
        YieldDesk even = Checks.deskOf("i 7;");
        CHECKS.due("one INFLOW", 1, even.piece(-1, 0));
        piece(even, 0, 0, 0, 1);
        notThere(even, 1);
        // m: 0 0 1 3, MEAN 1: line 2 meets line 1 at q = 1, which is MEAN: that one q alone.
        YieldDesk last = Checks.deskOf("i 0 1 2;");
        CHECKS.due("met at MEAN", 1, last.piece(-1, 0));
        piece(last, 0, 1, 0, 1);
        notThere(last, 1);
        // m: 0 0 1 4, MEAN 4/3: now line 2 has the q from 1 to 4/3.
        YieldDesk beyond = Checks.deskOf("i 0 1 3;");
        CHECKS.due("met ahead of MEAN", 2, beyond.piece(-1, 0));
        piece(beyond, 0, 1, 0, 1);
        piece(beyond, 1, 2, 1, 1);
        notThere(beyond, 2);
        // m(1) is 0: line 0 has q = 0 alone; else it has all up to m(1).
        YieldDesk flat = Checks.deskOf("i 1 2 3;");
        CHECKS.due("line 0 too", 2, flat.piece(-1, 0));
        piece(flat, 0, 0, 0, 1);
        piece(flat, 1, 1, 1, 1);
        // m: 0 0 5 10 15 60, all from the first four: lines 1, 2, 3, 4 meet in q = 5.
        YieldDesk bundle = Checks.deskOf("i 0 5 5 5 45;");
        CHECKS.due("of a bundle the outer ones", 2, bundle.piece(-1, 0));
        piece(bundle, 0, 1, 0, 1);
        piece(bundle, 1, 4, 5, 1);
        CHECKS.sentence("from which q on, a fraction");
        // m: 0 1 5 6 12: lines 1 and 3 meet at 5/2, where line 2 is 0.
        YieldDesk half = Checks.deskOf("i 1 4 1 6;");
        CHECKS.due("three", 3, half.piece(-1, 0));
        piece(half, 1, 1, 1, 1);
        piece(half, 2, 3, 5, 2);
        notThere(half, 3);
        // m: 0 1 6 11 12 21 30: lines 1 and 4 meet at 11/3, where line 2 is 4/3 and line 3 is 0.
        YieldDesk third = Checks.deskOf("i 1 5 5 1 9 9;");
        CHECKS.due("three", 3, third.piece(-1, 0));
        piece(third, 1, 1, 1, 1);
        piece(third, 2, 4, 11, 3);
        notThere(third, 3);
    }

    private static void mostPieces() {
        CHECKS.sentence("PIECES: .. how many; the k-th L; from which q on");
        // INFLOWS 1, 2, .. n: line L is NEED from q = L up to q = L + 1, as far as MEAN, (n + 1) / 2.
        for (int n = 1; n <= 12; n++) {
            YieldDesk desk = Checks.deskOf(inflows(1, n));
            int many = (n + 2) / 2;
            CHECKS.due("piece(-1, 0) of " + n, many, desk.piece(-1, 0));
            for (int k = 0; k < many; k++) {
                piece(desk, k, k, k, 1);
            }
            notThere(desk, many);
        }
    }

    private static void notSoMany() {
        CHECKS.sentence("how many (k = -1; what 0 alone), the k-th: .. NONE: not so many. BAD.");
        for (int what = -3; what <= 5; what++) {
            YieldDesk desk = Checks.deskOf("i 0 1 3;");
            CHECKS.due("piece(-1, " + what + ")", what == 0 ? 2 : YieldDesk.BAD, desk.piece(-1, what));
            CHECKS.due("piece(-2, " + what + ")", YieldDesk.BAD, desk.piece(-2, what));
            CHECKS.due("piece(MIN, " + what + ")", YieldDesk.BAD, desk.piece(Integer.MIN_VALUE, what));
            boolean isTaken = what >= 0 && what <= 2;
            CHECKS.due("piece(1, " + what + ")", what == 0 ? 2 : isTaken ? 1 : YieldDesk.BAD, desk.piece(1, what));
            for (int k : new int[] {2, 3, 4, 11, 12, 13, 14, 100, Integer.MAX_VALUE}) {
                int want = isTaken ? YieldDesk.NONE : YieldDesk.BAD;
                CHECKS.due("piece(" + k + ", " + what + ")", want, desk.piece(k, what));
            }
        }
    }
}
