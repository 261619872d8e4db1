import java.util.ArrayDeque;
import java.util.Deque;

/** NOW's boundary cases, sentence by sentence of part 2 and promises 5 to 9 and 24 to 26. */
public final class NowBoundsTest {
    private static final Checks CHECKS = new Checks();

    public static void main(String[] args) {
        roundAndRound();
        howManyPass();
        timeEnds();
        belowNothing();
        aboveCap();
        lossOfVolumeAsItWas();
        everyDraft();
        everyCap();
        capBelowVolume();
        everyInflow();
        nowIsAsAtFirstThen();
        sixAreKnown();
        ringOfTheKnown();
        theTextIsNotUndone();
        imagesKeep();
        nothingUndoneBehindBack();
        counts();
        CHECKS.end();
    }

    /** TIME, VOLUME, FAILS, SHORT, SPILT. */
    private static void now(YieldDesk desk, String when, int... want) {
        for (int i = 0; i < want.length; i++) {
            CHECKS.due(when + ": count(" + (i + 3) + ")", want[i], desk.count(i + 3));
        }
    }

    private static String inflows(int n) {
        StringBuilder text = new StringBuilder("i");
        for (int t = 0; t < n; t++) {
            text.append(' ').append(10 + t);
        }
        return text.append(';').toString();
    }

    private static void roundAndRound() {
        CHECKS.sentence("n being how many there are, PERIOD t has that of t left over by n");
        for (int n = 1; n <= 12; n++) {
            YieldDesk desk = Checks.deskOf(inflows(n));
            int spilt = 0;
            for (int t = 0; t < 3 * n; t++) {
                desk.passes(1);
                spilt += 10 + t % n;
                CHECKS.due("SPILT behind PERIOD " + t + " of " + n, spilt, desk.count(7));
            }
            YieldDesk late = Checks.deskOf(inflows(n));
            Checks.passTo(late, 990);
            for (int t = 990; t < 999; t++) {
                int ahead = late.count(7);
                late.passes(1);
                CHECKS.due("PERIOD " + t + " of " + n, 10 + t % n, late.count(7) - ahead);
            }
        }
    }

    private static void howManyPass() {
        CHECKS.sentence("n (1 .. 99) PERIODS pass: how many of them FAIL. BAD");
        for (int n = -3; n <= 102; n++) {
            boolean isTaken = n >= 1 && n <= 99;
            YieldDesk desk = Checks.deskOf("d 5;");
            CHECKS.due("passes(" + n + ")", isTaken ? n : YieldDesk.BAD, desk.passes(n));
            now(desk, "behind passes(" + n + ")", isTaken ? n : 0, 0, isTaken ? n : 0, isTaken ? 5 * n : 0, 0);
            CHECKS.due("known", isTaken ? 2 : 1, desk.count(11));
        }
        YieldDesk one = Checks.deskOf("i 0 9;d 5;");
        CHECKS.due("of one, one", 1, one.passes(1));
        CHECKS.due("of one, none", 0, one.passes(1));
        CHECKS.due("of four, two by 5 less 4", 2, one.passes(4));
    }

    private static void timeEnds() {
        CHECKS.sentence("TIME (the next PERIOD's number; 0 at first, 999 at most) .. STATE: TIME would be above 999.");
        for (int n = 1; n <= 99; n++) {
            YieldDesk desk = new YieldDesk();
            Checks.passTo(desk, 999 - n);
            CHECKS.due("TIME", 999 - n, desk.count(3));
            if (n < 99) {
                CHECKS.due("one too many", YieldDesk.STATE, desk.passes(n + 1));
                CHECKS.due("99", YieldDesk.STATE, desk.passes(99));
            }
            CHECKS.due("TIME stands", 999 - n, desk.count(3));
            CHECKS.due("to the end", 0, desk.passes(n));
            CHECKS.due("TIME", 999, desk.count(3));
            CHECKS.due("no more", YieldDesk.STATE, desk.passes(1));
            CHECKS.due("BAD goes ahead of STATE", YieldDesk.BAD, desk.passes(0));
            CHECKS.due("BAD goes ahead of STATE", YieldDesk.BAD, desk.passes(100));
            CHECKS.due("what else is done is not refused", 0, desk.drafts(1));
            CHECKS.due("nor a cap", 0, desk.caps(1));
            CHECKS.due("nor an inflow", 0, desk.flows(0, 1));
            desk.undo();
            desk.undo();
            desk.undo();
            CHECKS.due("undone from the end", 999, desk.count(3));
            desk.undo();
            CHECKS.due("undone from the end", 999 - n, desk.count(3));
            CHECKS.due("and on again", 0, desk.passes(n));
        }
    }

    private static void belowNothing() {
        CHECKS.sentence("if that is below 0, FAILS is 1 more, SHORT is more by what it is below 0, VOLUME is 0");
        for (int draft = 0; draft <= 99; draft++) {
            YieldDesk desk = Checks.deskOf("i 20;c 30;e 4 0 0 0 0 0 0 0 0 0;d " + draft + ";");
            int level = 30 + 20 - 4 - draft;
            CHECKS.due("passes(1) by " + draft, level < 0 ? 1 : 0, desk.passes(1));
            now(desk, "by " + draft, 1, Math.max(0, Math.min(30, level)), level < 0 ? 1 : 0, Math.max(0, -level),
                Math.max(0, level - 30));
        }
        YieldDesk sun = Checks.deskOf("e 9 0 0 0 0 0 0 0 0 0;d 99;");
        CHECKS.due("the most that can lack", 99, sun.passes(99));
        now(sun, "the most that can lack", 99, 0, 99, 99 * 108, 0);
    }

    private static void aboveCap() {
        CHECKS.sentence("if it is above CAP, SPILT is more by what it is above, VOLUME is CAP");
        int[] caps = {0, 1, 50, 998, 999};
        for (int cap : caps) {
            for (int draft = 0; draft <= 99; draft++) {
                YieldDesk desk = Checks.deskOf("i 50;c " + cap + ";d " + draft + ";");
                desk.passes(1);
                int level = cap + 50 - draft;
                now(desk, cap + " by " + draft, 1, Math.max(0, Math.min(cap, level)), level < 0 ? 1 : 0,
                    Math.max(0, -level), Math.max(0, level - cap));
            }
        }
        YieldDesk most = Checks.deskOf("i 99;c 999;");
        Checks.passTo(most, 999);
        now(most, "the most that can spill", 999, 999, 0, 0, 999 * 99);
    }

    private static void lossOfVolumeAsItWas() {
        CHECKS.sentence("VOLUME becomes VOLUME and its INFLOW, less LOSS of VOLUME as it was, less DRAFT");
        int[] caps = {0, 99, 100, 101, 199, 200, 899, 900, 999};
        for (int cap : caps) {
            YieldDesk desk = Checks.deskOf("c " + cap + ";i 9;e 9 8 7 6 5 4 3 2 1 0;");
            desk.passes(1);
            now(desk, "from " + cap, 1, cap, 0, 0, cap / 100);
        }
        YieldDesk up = Checks.deskOf("c 99;i 1;e 0 9 9 9 9 9 9 9 9 9;");
        up.caps(200);
        up.passes(1);
        CHECKS.due("99 loses as 99 does", 100, up.count(4));
        up.passes(1);
        CHECKS.due("100 loses as 100 does", 92, up.count(4));
    }

    private static void everyDraft() {
        CHECKS.sentence("DRAFT is q: what it was. BAD; STATE: it is that.");
        for (int held : new int[] {0, 50, 99}) {
            for (int q = -3; q <= 102; q++) {
                YieldDesk desk = Checks.deskOf("d " + held + ";");
                boolean isTaken = q >= 0 && q <= 99;
                int want = !isTaken ? YieldDesk.BAD : q == held ? YieldDesk.STATE : held;
                CHECKS.due("drafts(" + q + ") at " + held, want, desk.drafts(q));
                CHECKS.due("DRAFT", isTaken ? q : held, desk.count(1));
                CHECKS.due("known", want < 0 ? 1 : 2, desk.count(11));
            }
        }
    }

    private static void everyCap() {
        CHECKS.sentence("CAP is c: what it was. BAD; STATE: it is that.");
        for (int held : new int[] {0, 500, 999}) {
            for (int c = -3; c <= 1002; c++) {
                YieldDesk desk = Checks.deskOf("c " + held + ";");
                boolean isTaken = c >= 0 && c <= 999;
                int want = !isTaken ? YieldDesk.BAD : c == held ? YieldDesk.STATE : held;
                CHECKS.due("caps(" + c + ") at " + held, want, desk.caps(c));
                CHECKS.due("CAP", isTaken ? c : held, desk.count(2));
                CHECKS.due("VOLUME", isTaken ? Math.min(c, held) : held, desk.count(4));
                CHECKS.due("SPILT", isTaken ? Math.max(0, held - c) : 0, desk.count(7));
                CHECKS.due("known", want < 0 ? 1 : 2, desk.count(11));
            }
        }
    }

    private static void capBelowVolume() {
        CHECKS.sentence("CAP below VOLUME: SPILT is more by the difference, VOLUME is CAP");
        YieldDesk desk = Checks.deskOf("c 50;d 10;");
        desk.passes(1);
        desk.caps(41);
        now(desk, "above VOLUME", 1, 40, 0, 0, 0);
        desk.caps(40);
        now(desk, "at VOLUME", 1, 40, 0, 0, 0);
        desk.caps(39);
        now(desk, "one below VOLUME", 1, 39, 0, 0, 1);
        desk.caps(0);
        now(desk, "none", 1, 0, 0, 0, 40);
        desk.caps(999);
        now(desk, "all", 1, 0, 0, 0, 40);
        desk.undo();
        desk.undo();
        now(desk, "undone", 1, 39, 0, 0, 1);
    }

    private static void everyInflow() {
        CHECKS.sentence("The INFLOW of a PERIOD (0 .. n less 1) is v: what it was. BAD; STATE: it is that.");
        for (int n = 1; n <= 12; n++) {
            for (int t = -3; t <= 15; t++) {
                YieldDesk desk = Checks.deskOf(inflows(n));
                boolean isTaken = t >= 0 && t < n;
                CHECKS.due("inflow(" + t + ") of " + n, isTaken ? 10 + t : YieldDesk.BAD, desk.inflow(t));
                CHECKS.due("as it is", isTaken ? YieldDesk.STATE : YieldDesk.BAD, desk.flows(t, 10 + t));
                CHECKS.due("-1", YieldDesk.BAD, desk.flows(t, -1));
                CHECKS.due("100", YieldDesk.BAD, desk.flows(t, 100));
                CHECKS.due("flows(" + t + ", 0) of " + n, isTaken ? 10 + t : YieldDesk.BAD, desk.flows(t, 0));
                CHECKS.due("flows(" + t + ", 99) of " + n, isTaken ? 0 : YieldDesk.BAD, desk.flows(t, 99));
                CHECKS.due("known", isTaken ? 3 : 1, desk.count(11));
                for (int other = 0; other < n; other++) {
                    CHECKS.due("INFLOW " + other, other == t ? 99 : 10 + other, desk.inflow(other));
                }
            }
        }
        for (int v = -3; v <= 102; v++) {
            YieldDesk desk = Checks.deskOf("i 5 50 5;");
            int want = v < 0 || v > 99 ? YieldDesk.BAD : v == 50 ? YieldDesk.STATE : 50;
            CHECKS.due("flows(1, " + v + ")", want, desk.flows(1, v));
            CHECKS.due("INFLOW", want == 50 ? v : 50, desk.inflow(1));
        }
        YieldDesk shrunk = Checks.deskOf("i 1 2 3;");
        Checks.tell(shrunk, "i 4;");
        CHECKS.due("no longer there", YieldDesk.BAD, shrunk.flows(1, 7));
        CHECKS.due("no longer there", YieldDesk.BAD, shrunk.inflow(1));
        CHECKS.due("undo()", 1, shrunk.undo());
        CHECKS.due("there again", 3, shrunk.inflow(2));
        shrunk.passes(2);
        CHECKS.due("a PERIOD that has passed", 1, shrunk.flows(0, 9));
        CHECKS.due("nothing passes by it", 2, shrunk.count(3));
        CHECKS.due("nothing spills by it", 3, shrunk.count(7));
    }

    private static void nowIsAsAtFirstThen() {
        CHECKS.sentence("a text told (NOW is as at first then)");
        YieldDesk desk = Checks.deskOf("i 9 0;d 6;c 2;");
        desk.passes(9);
        CHECKS.due("FAILS ahead", 4, desk.count(5));
        Checks.tell(desk, "i 9 0;d 6;c 2;");
        now(desk, "the same told again", 0, 2, 0, 0, 0);
        CHECKS.due("it is DONE, though the same", 3, desk.count(11));
        Checks.tell(desk, "i 9 0;d 6;c 2;");
        now(desk, "and again", 0, 2, 0, 0, 0);
        CHECKS.due("it is DONE, though the same", 4, desk.count(11));
        desk.undo();
        desk.undo();
        CHECKS.due("TIME as ahead", 9, desk.count(3));
        CHECKS.due("FAILS as ahead", 4, desk.count(5));
    }

    private static void sixAreKnown() {
        CHECKS.sentence("6 are known, older ones are lost");
        for (int done = 0; done <= 20; done++) {
            YieldDesk desk = new YieldDesk();
            for (int q = 1; q <= done; q++) {
                desk.drafts(q);
            }
            int known = Math.min(done, 6);
            CHECKS.due("known of " + done, known, desk.count(11));
            for (int i = 1; i <= known; i++) {
                CHECKS.due("undo() " + i + " of " + done, known - i, desk.undo());
                CHECKS.due("DRAFT", done - i, desk.count(1));
            }
            CHECKS.due("one more of " + done, YieldDesk.STATE, desk.undo());
            CHECKS.due("DRAFT stands", done - known, desk.count(1));
            CHECKS.due("known", 0, desk.count(11));
        }
        CHECKS.sentence("UNDONE: the latest .. that was not refused");
        YieldDesk desk = Checks.deskOf("i 4 5;d 1;c 2;");
        desk.drafts(7);
        desk.drafts(7);
        desk.drafts(100);
        desk.caps(2);
        desk.caps(1000);
        desk.flows(0, 4);
        desk.flows(2, 4);
        desk.passes(0);
        Checks.tell(desk, "x");
        desk.need(1);
        desk.sees(0, 1);
        desk.forget();
        desk.keep(0);
        desk.type('y');
        desk.clear();
        CHECKS.due("known", 2, desk.count(11));
        CHECKS.due("undo()", 1, desk.undo());
        CHECKS.due("DRAFT", 1, desk.count(1));
    }

    /** Done and undone by turns, so that what is known wraps around at every place. */
    private static void ringOfTheKnown() {
        CHECKS.sentence("6 are known, older ones are lost");
        int[][] turns = {{5, 3}, {4, 4}, {7, 6}, {6, 2}, {1, 1}, {9, 5}, {3, 4}, {8, 7}, {2, 2}, {13, 6}};
        YieldDesk desk = new YieldDesk();
        Deque<Integer> known = new ArrayDeque<>();
        int draft = 0;
        int next = 0;
        for (int[] turn : turns) {
            for (int i = 0; i < turn[0]; i++) {
                known.push(draft);
                next = next % 99 + 1;
                desk.drafts(next);
                draft = next;
                if (known.size() > 6) {
                    known.removeLast();
                }
                CHECKS.due("known", known.size(), desk.count(11));
            }
            for (int i = 0; i < turn[1]; i++) {
                boolean isKnown = !known.isEmpty();
                draft = isKnown ? known.pop() : draft;
                CHECKS.due("undo()", isKnown ? known.size() : YieldDesk.STATE, desk.undo());
                CHECKS.due("DRAFT", draft, desk.count(1));
            }
        }
    }

    private static void theTextIsNotUndone() {
        CHECKS.sentence("all that 1 and 2 tell but THE TEXT is as ahead of it");
        YieldDesk desk = new YieldDesk();
        Checks.type(desk, "i 3 4;d 5;c 6;e 1 1 1 1 1 1 1 1 1 1;");
        String ahead = Checks.stateOf(desk);
        desk.tells();
        desk.sees(2, 3);
        CHECKS.due("undo()", 0, desk.undo());
        CHECKS.same("as ahead", ahead, Checks.stateOf(desk));
        CHECKS.due("THE TEXT is no longer there", 0, desk.count(10));
        CHECKS.due("SEEN stands", 1, desk.count(9));
        Checks.type(desk, "d 8;");
        desk.drafts(3);
        desk.undo();
        CHECKS.due("THE TEXT stands", 4, desk.count(10));
        CHECKS.due("and tells", 1, desk.tells());
        CHECKS.due("DRAFT", 8, desk.count(1));
    }

    private static void imagesKeep() {
        CHECKS.sentence("IMAGES 0, 1 keep all that 1 and 2 tell but THE TEXT; nothing else");
        for (int image = -3; image <= 4; image++) {
            YieldDesk desk = Checks.deskOf("i 3 4;d 5;c 6;e 1 1 1 1 1 1 1 1 1 1;");
            desk.passes(5);
            boolean isTaken = image == 0 || image == 1;
            CHECKS.due("back(" + image + ") of none", isTaken ? YieldDesk.STATE : YieldDesk.BAD, desk.back(image));
            String kept = Checks.stateOf(desk);
            Checks.type(desk, "d 7;");
            desk.sees(0, 1);
            CHECKS.due("keep(" + image + ")", isTaken ? 5 : YieldDesk.BAD, desk.keep(image));
            desk.clear();
            desk.forget();
            Checks.tell(desk, "i 9 9 9;c 100;");
            desk.passes(99);
            String other = Checks.stateOf(desk);
            CHECKS.due("the other one", isTaken ? YieldDesk.STATE : YieldDesk.BAD, desk.back(isTaken ? 1 - image : image));
            CHECKS.same("stands", other, Checks.stateOf(desk));
            CHECKS.due("back(" + image + ")", isTaken ? 5 : YieldDesk.BAD, desk.back(image));
            CHECKS.same("as kept", isTaken ? kept : other, Checks.stateOf(desk));
            CHECKS.due("THE TEXT is not kept", 0, desk.count(10));
            CHECKS.due("SEEN is not kept", 0, desk.count(9));
            CHECKS.due("back(" + image + ") again", isTaken ? 5 : YieldDesk.BAD, desk.back(image));
        }
        YieldDesk end = new YieldDesk();
        CHECKS.due("keep(0) at 0", 0, end.keep(0));
        Checks.passTo(end, 999);
        CHECKS.due("keep(1) at 999", 999, end.keep(1));
        CHECKS.due("back(0)", 0, end.back(0));
        CHECKS.due("back(1)", 999, end.back(1));
        end.drafts(4);
        CHECKS.due("an image is no more changed", 999, end.back(1));
        CHECKS.due("DRAFT", 0, end.count(1));
    }

    private static void nothingUndoneBehindBack() {
        CHECKS.sentence("nothing can be UNDONE behind back()");
        YieldDesk desk = new YieldDesk();
        desk.keep(1);
        for (int q = 1; q <= 8; q++) {
            desk.drafts(q);
        }
        CHECKS.due("a refused back()", YieldDesk.STATE, desk.back(0));
        CHECKS.due("known stand", 6, desk.count(11));
        CHECKS.due("back(1)", 0, desk.back(1));
        CHECKS.due("known", 0, desk.count(11));
        CHECKS.due("undo()", YieldDesk.STATE, desk.undo());
        for (int q = 11; q <= 18; q++) {
            desk.drafts(q);
            CHECKS.due("known", Math.min(6, q - 10), desk.count(11));
        }
        for (int q = 17; q >= 12; q--) {
            CHECKS.due("undo()", q - 12, desk.undo());
            CHECKS.due("DRAFT", q, desk.count(1));
        }
        CHECKS.due("undo()", YieldDesk.STATE, desk.undo());
    }

    private static void counts() {
        CHECKS.sentence("0 n, 1 DRAFT, 2 CAP, .. 10 letters of THE TEXT, 11 how many may be UNDONE. BAD.");
        YieldDesk desk = Checks.deskOf("i 99 99 99 99 99 99 99 99 99 99 99 99;d 98;c 997;");
        desk.passes(3);
        desk.caps(996);
        desk.sees(0, 0);
        desk.sees(0, 0);
        Checks.type(desk, "zzzzz");
        int[] want = {12, 98, 996, 3, 996, 0, 0, 4, 1188, 2, 5, 3};
        for (int what = -3; what <= 14; what++) {
            boolean isTaken = what >= 0 && what < want.length;
            CHECKS.due("count(" + what + ")", isTaken ? want[what] : YieldDesk.BAD, desk.count(what));
        }
    }
}
