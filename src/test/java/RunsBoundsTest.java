import java.math.BigInteger;

/** The boundary cases of the FULL RUN, LEAST CAP, ROUND and ODDS: part 3, promises 16 to 19. */
public final class RunsBoundsTest {
    private static final Checks CHECKS = new Checks();

    public static void main(String[] args) {
        everyPeriodOfARun();
        noEndAt999();
        runStartsFull();
        everyLeast();
        leastAtTheEnds();
        leastIsNoMoreThanIsNeeded();
        everyRoundPart();
        roundAtTheEnds();
        failsBetweenAlone();
        everyOdds();
        oddsInLeastTerms();
        halvedIsCut();
        oddsFromNow();
        oddsBeyondTheEnd();
        CHECKS.end();
    }

    private static void everyPeriodOfARun() {
        CHECKS.sentence("VOLUME behind PERIOD t (0 .. 999) of the FULL RUN. BAD.");
        for (int t = -3; t <= 1002; t++) {
            boolean isTaken = t >= 0 && t <= 999;
            YieldDesk falling = Checks.deskOf("d 1;c 999;");
            CHECKS.due("run(" + t + ")", isTaken ? Math.max(0, 998 - t) : YieldDesk.BAD, falling.run(t));
            // By PERIOD 0 it is 8, by PERIOD 1 it is 2, by PERIOD 2 it fails; then 4, 0, 0 for ever.
            YieldDesk three = Checks.deskOf("i 10 0 3;d 6;c 8;");
            int volume = t == 0 ? 8 : t == 1 ? 2 : t % 3 == 0 ? 4 : 0;
            CHECKS.due("run(" + t + ") of three", isTaken ? volume : YieldDesk.BAD, three.run(t));
        }
    }

    private static void noEndAt999() {
        CHECKS.sentence("PERIODS pass (there is no end at 999)");
        YieldDesk desk = Checks.deskOf("i 0 0 0 0 0 0 0 0 0 0 0 12;d 1;c 12;");
        Checks.passTo(desk, 999);
        CHECKS.due("PERIOD 999 has the fourth INFLOW", 8, desk.run(999));
        CHECKS.due("PERIOD 998", 9, desk.run(998));
        CHECKS.due("TIME stands", 999, desk.count(3));
        CHECKS.due("passes(1) is refused all the same", YieldDesk.STATE, desk.passes(1));
    }

    private static void runStartsFull() {
        CHECKS.sentence("FULL RUN: CAP, DRAFT as they are or as told, VOLUME is CAP, TIME 0, all else 0");
        YieldDesk desk = Checks.deskOf("i 5 0 0;d 9;c 20;");
        desk.passes(7);
        CHECKS.due("VOLUME now", 0, desk.count(4));
        CHECKS.due("run(0)", 16, desk.run(0));
        desk.caps(30);
        CHECKS.due("run(0) of CAP 30", 26, desk.run(0));
        desk.drafts(5);
        CHECKS.due("run(0) of DRAFT 5", 30, desk.run(0));
        desk.flows(0, 0);
        CHECKS.due("run(0) of INFLOW 0", 25, desk.run(0));
        desk.caps(0);
        CHECKS.due("run(0) of CAP 0", 0, desk.run(0));
        CHECKS.due("run(0) at first", 0, new YieldDesk().run(0));
    }

    private static void everyLeast() {
        CHECKS.sentence("LEAST CAP for m (1 to 120)");
        for (int draft : new int[] {0, 1, 8, 9, 99}) {
            YieldDesk desk = Checks.deskOf("c 5;d " + draft + ";");
            for (int m = -3; m <= 123; m++) {
                int want = m < 1 || m > 120 ? YieldDesk.BAD : m * draft <= 999 ? m * draft : YieldDesk.NONE;
                CHECKS.due("least(" + m + ") by " + draft, want, desk.least(m));
            }
        }
    }

    private static void leastAtTheEnds() {
        CHECKS.sentence("the least CAP (0 to 999) by whose FULL RUN .. none of the first m PERIODS FAILS; NONE");
        CHECKS.due("none is needed", 0, Checks.deskOf("i 9;d 9;").least(120));
        CHECKS.due("less than none is no CAP", 0, Checks.deskOf("i 99;d 5;").least(120));
        CHECKS.due("one is needed", 1, Checks.deskOf("i 9;d 10;").least(1));
        CHECKS.due("at first", 0, new YieldDesk().least(120));
        YieldDesk exact = Checks.deskOf("i 0 0 0 0 0 0 0 0 0 99 0 0;d 99;");
        CHECKS.due("nine PERIODS", 891, exact.least(9));
        CHECKS.due("ten PERIODS, by the tenth's INFLOW", 891, exact.least(10));
        CHECKS.due("eleven PERIODS", 990, exact.least(11));
        CHECKS.due("twelve PERIODS", YieldDesk.NONE, exact.least(12));
        YieldDesk most = Checks.deskOf("d 27;");
        CHECKS.due("37 times 27", 999, most.least(37));
        CHECKS.due("38 times 27", YieldDesk.NONE, most.least(38));
        most.drafts(37);
        CHECKS.due("27 times 37", 999, most.least(27));
        CHECKS.due("28 times 37", YieldDesk.NONE, most.least(28));
        CHECKS.due("the CAP as it is is not asked", 0, most.count(2));
        most.caps(999);
        CHECKS.due("the CAP as it is is not asked", 999, most.least(27));
    }

    private static void leastIsNoMoreThanIsNeeded() {
        CHECKS.sentence("the least CAP");
        // By 100 and more the sun takes all that is above; 99 does where 100 to 108 fail.
        YieldDesk desk = Checks.deskOf("i 5;d 6;e 0 9 9 9 9 9 9 9 9 9;");
        CHECKS.due("99 for 99", 99, desk.least(99));
        CHECKS.due("109 for 100", 109, desk.least(100));
        // An empty one fails by the sun alone, a fuller one does not.
        YieldDesk sun = Checks.deskOf("e 9 0 0 0 0 0 0 0 0 0;");
        CHECKS.due("from 100 on it holds for ever", 100, sun.least(120));
        YieldDesk high = Checks.deskOf("i 1;d 1;e 1 1 1 1 1 1 1 1 1 0;");
        CHECKS.due("one less by each", 120, high.least(120));
        YieldDesk higher = Checks.deskOf("e 9 9 9 9 9 9 9 9 9 0;");
        CHECKS.due("at the tenth loss it holds for ever", 900, higher.least(120));
    }

    private static void round(YieldDesk desk, int earlier, int between, int fails) {
        CHECKS.due("round(0)", earlier, desk.round(0));
        CHECKS.due("round(1)", between, desk.round(1));
        CHECKS.due("round(2)", fails, desk.round(2));
    }

    private static void everyRoundPart() {
        CHECKS.sentence("the earlier one, by n (what = 0), how many times n (1), how many FAIL (2). BAD.");
        for (int what = -3; what <= 5; what++) {
            YieldDesk desk = Checks.deskOf("i 0 0;d 9;c 25;");
            int want = what == 0 ? 2 : what == 1 ? 1 : what == 2 ? 2 : YieldDesk.BAD;
            CHECKS.due("round(" + what + ")", want, desk.round(what));
        }
    }

    private static void roundAtTheEnds() {
        CHECKS.sentence("the first TIME that is a multiple of n at which VOLUME is what it was at an earlier multiple of n");
        round(new YieldDesk(), 0, 1, 0);
        round(Checks.deskOf("c 999;"), 0, 1, 0);
        round(Checks.deskOf("d 1;c 0;"), 0, 1, 1);
        round(Checks.deskOf("d 1;c 1;"), 1, 1, 1);
        round(Checks.deskOf("d 1;c 999;"), 999, 1, 1);
        // One less by each twelve PERIODS, far beyond TIME 999.
        round(Checks.deskOf("i 1 1 1 1 1 1 1 1 1 1 1 0;d 1;c 999;"), 999, 1, 1);
        round(Checks.deskOf("i 0 1 1 1 1 1 1 1 1 1 1 1;d 1;c 998;"), 998, 1, 1);
        // VOLUME within a round is no matter: 6 and 8 by turns, 8 at each multiple of 2.
        round(Checks.deskOf("i 0 4;d 2;c 8;"), 0, 1, 0);
        // 902, 900, 898, 901, 899, 902.
        round(Checks.deskOf("i 3;c 902;e 0 0 0 0 0 0 0 0 0 5;"), 0, 5, 0);
        // 100 loses 8, gains 7 and is 99; that gains 7 and is cut to 100.
        round(Checks.deskOf("i 7;c 100;e 0 8 0 0 0 0 0 0 0 0;"), 0, 2, 0);
        YieldDesk desk = Checks.deskOf("d 1;c 3;");
        desk.passes(99);
        round(desk, 3, 1, 1);
    }

    private static void failsBetweenAlone() {
        CHECKS.sentence("how many PERIODS between FAIL");
        // From 30 on: 25, 20, .. 0 fails by none; from 0 on each PERIOD fails.
        round(Checks.deskOf("d 5;c 30;"), 6, 1, 1);
        // 5, then fails twice by the first two PERIODS, and by two of each later round.
        round(Checks.deskOf("i 0 0 9;d 9;c 5;"), 1, 1, 2);
        round(Checks.deskOf("i 9 9 9;d 9;c 5;"), 0, 1, 0);
        round(Checks.deskOf("i 0 0 0 0 0 0 0 0 0 0 0 0;d 99;c 999;"), 1, 1, 12);
    }

    private static void odd(YieldDesk desk, int k, int x, BigInteger upper, BigInteger lower) {
        BigInteger shared = upper.gcd(lower);
        CHECKS.due("odds(" + k + ", " + x + ", 0)", upper.divide(shared).intValueExact(), desk.odds(k, x, 0));
        CHECKS.due("odds(" + k + ", " + x + ", 1)", lower.divide(shared).intValueExact(), desk.odds(k, x, 1));
    }

    private static void odd(YieldDesk desk, int k, int x, int upper, int lower) {
        odd(desk, k, x, BigInteger.valueOf(upper), BigInteger.valueOf(lower));
    }

    private static void everyOdds() {
        CHECKS.sentence("ODDS of k (0 to 8), x (0 to 10)");
        for (int k = -3; k <= 11; k++) {
            // Whole it holds, halved it fails: no PERIOD may be halved.
            YieldDesk desk = Checks.deskOf("i 3;d 2;");
            for (int x = -3; x <= 13; x++) {
                if (k < 0 || k > 8 || x < 0 || x > 10) {
                    CHECKS.due("odds(" + k + ", " + x + ", 0)", YieldDesk.BAD, desk.odds(k, x, 0));
                    CHECKS.due("odds(" + k + ", " + x + ", 1)", YieldDesk.BAD, desk.odds(k, x, 1));
                } else {
                    odd(desk, k, x, BigInteger.valueOf(10 - x).pow(k), BigInteger.TEN.pow(k));
                }
            }
        }
        for (int what = -3; what <= 4; what++) {
            int want = what == 0 ? 7 : what == 1 ? 10 : YieldDesk.BAD;
            CHECKS.due("odds(1, 3, " + what + ")", want, Checks.deskOf("i 3;d 2;").odds(1, 3, what));
        }
    }

    private static void oddsInLeastTerms() {
        CHECKS.sentence("ODDS: upper (what = 0), lower number (1), in least terms.");
        YieldDesk fails = Checks.deskOf("d 1;");
        YieldDesk holds = new YieldDesk();
        for (int k = 0; k <= 8; k++) {
            for (int x = 0; x <= 10; x++) {
                odd(fails, k, x, k == 0 ? 1 : 0, 1);
                odd(holds, k, x, 1, 1);
            }
        }
        odd(Checks.deskOf("i 3;d 2;"), 8, 3, 5764801, 100000000);
        odd(Checks.deskOf("i 3;d 2;"), 8, 5, 1, 256);
        odd(Checks.deskOf("i 3;d 2;"), 8, 2, 65536, 390625);
    }

    private static void halvedIsCut() {
        CHECKS.sentence("half of what it is (cut)");
        for (int inflow = 0; inflow <= 99; inflow++) {
            YieldDesk half = Checks.deskOf("i " + inflow + ";d " + inflow / 2 + ";");
            odd(half, 1, 10, 1, 1);
            half.drafts(inflow / 2 + 1);
            odd(half, 1, 10, 0, 1);
        }
    }

    private static void oddsFromNow() {
        CHECKS.sentence("that from NOW on none of k PERIODS FAILS, if each INFLOW, for itself, is half");
        // It holds 3 now; each halved one takes 1 off, three may be halved, the fourth fails.
        YieldDesk desk = Checks.deskOf("i 2;d 2;c 3;");
        odd(desk, 3, 5, 1, 1);
        odd(desk, 4, 5, 15, 16);
        odd(desk, 8, 5, 93, 256);
        desk.caps(0);
        odd(desk, 1, 5, 1, 2);
        desk.caps(3);
        odd(desk, 1, 5, 1, 2);
        // FAILS ahead of NOW are no matter.
        YieldDesk failed = Checks.deskOf("i 0 9;d 4;");
        failed.passes(1);
        CHECKS.due("FAILS", 1, failed.count(5));
        odd(failed, 1, 10, 1, 1);
        odd(failed, 2, 10, 0, 1);
        odd(failed, 0, 10, 1, 1);
        // What is above CAP is gone: it holds 4 behind two PERIODS, not 6, and the third fails.
        YieldDesk brim = Checks.deskOf("i 9 9 3;d 8;c 4;");
        odd(brim, 2, 0, 1, 1);
        odd(brim, 3, 0, 0, 1);
        // The sun takes its part: whole it is just 0, halved below 0.
        YieldDesk sun = Checks.deskOf("i 4;d 2;e 2 0 0 0 0 0 0 0 0 0;");
        odd(sun, 1, 4, 6, 10);
        // Halved, 100 is 91 by the sun, and then stays.
        YieldDesk high = Checks.deskOf("i 4;d 2;c 100;e 0 9 0 0 0 0 0 0 0 0;");
        odd(high, 8, 10, 1, 1);
    }

    private static void oddsBeyondTheEnd() {
        CHECKS.sentence("beyond TIME 999, too");
        // 999 leaves 5 by 7: PERIODS 999 to 1006 have the INFLOWS 5, 6, 0, 1, 2, 3, 4, 5.
        YieldDesk desk = Checks.deskOf("i 9 9 9 9 9 3 9;d 3;");
        Checks.passTo(desk, 999);
        CHECKS.due("TIME", 999, desk.count(3));
        odd(desk, 0, 4, 1, 1);
        odd(desk, 1, 4, 6, 10);
        odd(desk, 2, 4, 6, 10);
        odd(desk, 7, 4, 6, 10);
        odd(desk, 8, 4, 36, 100);
        CHECKS.due("TIME stands", 999, desk.count(3));
        YieldDesk earlier = Checks.deskOf("i 9 9 9 9 9 3 9;d 3;");
        Checks.passTo(earlier, 998);
        odd(earlier, 1, 4, 1, 1);
        odd(earlier, 2, 4, 6, 10);
    }
}
