/** The boundary cases of SEEN, DRAFTS and LOOK: part 3's last sentences, promises 20 to 23. */
public final class SeenBoundsTest {
    private static final Checks CHECKS = new Checks();

    public static void main(String[] args) {
        everyPeriodSeen();
        everyVolumeSeen();
        sixAtMost();
        forgotten();
        everyDraftFits();
        theLastPeriodSeen();
        everyFitsPart();
        capAsItIsWhenAsked();
        fullRunOfAnUnknownDraft();
        lookOfFewDrafts();
        theEarliestOfSeveral();
        theLastPeriodLooked();
        noPeriodBeyondIt();
        CHECKS.end();
    }

    private static void everyPeriodSeen() {
        CHECKS.sentence("VOLUME was v (0 to 999) behind PERIOD t (0 to 39)");
        for (int t = -3; t <= 42; t++) {
            YieldDesk desk = new YieldDesk();
            boolean isTaken = t >= 0 && t <= 39;
            CHECKS.due("sees(" + t + ", 0)", isTaken ? 1 : YieldDesk.BAD, desk.sees(t, 0));
            CHECKS.due("SEEN", isTaken ? 1 : 0, desk.count(9));
            CHECKS.due("sees(" + t + ", -1)", YieldDesk.BAD, desk.sees(t, -1));
            CHECKS.due("sees(" + t + ", 1000)", YieldDesk.BAD, desk.sees(t, 1000));
            CHECKS.due("known", 0, desk.count(11));
        }
    }

    private static void everyVolumeSeen() {
        CHECKS.sentence("VOLUME was v (0 to 999) behind PERIOD t (0 to 39)");
        for (int v = -3; v <= 1002; v++) {
            YieldDesk desk = new YieldDesk();
            boolean isTaken = v >= 0 && v <= 999;
            CHECKS.due("sees(39, " + v + ")", isTaken ? 1 : YieldDesk.BAD, desk.sees(39, v));
            CHECKS.due("SEEN", isTaken ? 1 : 0, desk.count(9));
        }
        YieldDesk small = Checks.deskOf("c 5;");
        CHECKS.due("a VOLUME above CAP is taken", 1, small.sees(0, 6));
        CHECKS.due("no DRAFT fits it", 0, small.fits(0));
    }

    private static void sixAtMost() {
        CHECKS.sentence("SEEN (6 at most) .. SEEN: how much there is. BAD; FULL: 6.");
        YieldDesk desk = Checks.deskOf("c 999;");
        for (int i = 1; i <= 6; i++) {
            CHECKS.due("sees() " + i, i, desk.sees(5, 999 - 6 * 3));
            CHECKS.due("SEEN", i, desk.count(9));
            CHECKS.due("fits(1)", 3, desk.fits(1));
        }
        CHECKS.due("a seventh, the same", YieldDesk.FULL, desk.sees(5, 999 - 6 * 3));
        CHECKS.due("a seventh, another", YieldDesk.FULL, desk.sees(0, 0));
        CHECKS.due("BAD goes ahead of FULL", YieldDesk.BAD, desk.sees(40, 0));
        CHECKS.due("BAD goes ahead of FULL", YieldDesk.BAD, desk.sees(-1, 0));
        CHECKS.due("BAD goes ahead of FULL", YieldDesk.BAD, desk.sees(0, 1000));
        CHECKS.due("BAD goes ahead of FULL", YieldDesk.BAD, desk.sees(0, -1));
        CHECKS.due("SEEN", 6, desk.count(9));
        CHECKS.due("fits(0)", 1, desk.fits(0));
        YieldDesk last = Checks.deskOf("c 999;");
        for (int i = 0; i < 5; i++) {
            last.sees(0, 990);
        }
        CHECKS.due("five agree", 1, last.fits(0));
        last.sees(1, 982);
        CHECKS.due("the sixth does not", 0, last.fits(0));
    }

    private static void forgotten() {
        CHECKS.sentence("Nothing is SEEN: how much was.");
        for (int many = 0; many <= 6; many++) {
            YieldDesk desk = Checks.deskOf("c 999;");
            for (int i = 0; i < many; i++) {
                desk.sees(i, 0);
            }
            CHECKS.due("forget() of " + many, many, desk.forget());
            CHECKS.due("forget() again", 0, desk.forget());
            CHECKS.due("SEEN", 0, desk.count(9));
            CHECKS.due("all DRAFTS fit", 100, desk.fits(0));
            CHECKS.due("the first anew", 1, desk.sees(0, 900));
            CHECKS.due("it alone counts", 99, desk.fits(1));
        }
    }

    private static void everyDraftFits() {
        CHECKS.sentence("an unknown DRAFT (0 to 99 ..) .. DRAFTS by which all that was SEEN is so: how many; the least; NONE");
        for (int v = 890; v <= 999; v++) {
            YieldDesk desk = Checks.deskOf("c 999;d 7;");
            desk.sees(0, v);
            boolean isSo = v >= 900;
            CHECKS.due("fits(0) of " + v, isSo ? 1 : 0, desk.fits(0));
            CHECKS.due("fits(1) of " + v, isSo ? 999 - v : YieldDesk.NONE, desk.fits(1));
        }
        YieldDesk all = Checks.deskOf("i 99;d 7;");
        all.sees(0, 0);
        CHECKS.due("all", 100, all.fits(0));
        CHECKS.due("the least of all", 0, all.fits(1));
        YieldDesk none = Checks.deskOf("i 99;d 7;c 1;");
        none.sees(0, 0);
        CHECKS.due("99 takes just what comes, 1 stays", 0, none.fits(0));
        CHECKS.due("NONE", YieldDesk.NONE, none.fits(1));
        none.forget();
        none.sees(0, 1);
        CHECKS.due("all", 100, none.fits(0));
    }

    private static void theLastPeriodSeen() {
        CHECKS.sentence("behind PERIOD t (0 to 39)");
        // Behind PERIOD 39 forty drafts have been taken of 999.
        for (int q = 0; q <= 24; q++) {
            YieldDesk desk = Checks.deskOf("c 999;");
            desk.sees(39, 999 - 40 * q);
            CHECKS.due("fits(0)", 1, desk.fits(0));
            CHECKS.due("fits(1)", q, desk.fits(1));
        }
        YieldDesk dry = Checks.deskOf("c 999;");
        dry.sees(39, 0);
        CHECKS.due("fits(0) of 0", 75, dry.fits(0));
        CHECKS.due("fits(1) of 0", 25, dry.fits(1));
        dry.sees(39, 1);
        CHECKS.due("not both", 0, dry.fits(0));
        // Round and round: PERIOD 38 has the first of two INFLOWS, PERIOD 39 the second.
        YieldDesk two = Checks.deskOf("i 0 40;c 40;");
        two.sees(39, 40);
        two.sees(38, 31);
        CHECKS.due("fits(1)", 9, two.fits(1));
    }

    private static void everyFitsPart() {
        CHECKS.sentence("DRAFTS: how many (what = 0), the least (1; NONE). BAD.");
        for (int what = -3; what <= 4; what++) {
            YieldDesk desk = Checks.deskOf("c 50;");
            desk.sees(0, 0);
            int want = what == 0 || what == 1 ? 50 : YieldDesk.BAD;
            CHECKS.due("fits(" + what + ")", want, desk.fits(what));
            desk.sees(0, 1);
            int none = what == 0 ? 0 : what == 1 ? YieldDesk.NONE : YieldDesk.BAD;
            CHECKS.due("fits(" + what + ") of none", none, desk.fits(what));
        }
    }

    private static void capAsItIsWhenAsked() {
        CHECKS.sentence("CAP as it is when DRAFTS, LOOK are asked");
        YieldDesk desk = Checks.deskOf("c 50;");
        desk.sees(0, 30);
        CHECKS.due("CAP 50", 20, desk.fits(1));
        desk.caps(30);
        CHECKS.due("CAP 30", 0, desk.fits(1));
        desk.caps(29);
        CHECKS.due("CAP 29", YieldDesk.NONE, desk.fits(1));
        CHECKS.due("look() of none", YieldDesk.NONE, desk.look());
        desk.caps(129);
        CHECKS.due("CAP 129", 99, desk.fits(1));
        desk.caps(130);
        CHECKS.due("CAP 130", YieldDesk.NONE, desk.fits(1));
        desk.undo();
        CHECKS.due("CAP 129 again", 99, desk.fits(1));
    }

    private static void fullRunOfAnUnknownDraft() {
        CHECKS.sentence("in a FULL RUN of an unknown DRAFT");
        YieldDesk desk = Checks.deskOf("i 3 0;d 50;c 50;");
        desk.passes(5);
        CHECKS.due("VOLUME now", 0, desk.count(4));
        desk.sees(0, 50);
        CHECKS.due("DRAFT as it is is no matter", 4, desk.fits(0));
        desk.sees(1, 48);
        CHECKS.due("fits(1)", 2, desk.fits(1));
        desk.drafts(2);
        CHECKS.due("nor another one", 2, desk.fits(1));
        CHECKS.due("one can be at most", YieldDesk.NONE, desk.look());
    }

    private static void lookOfFewDrafts() {
        CHECKS.sentence("NONE (one can be at most)");
        YieldDesk desk = Checks.deskOf("i 1;c 50;");
        desk.sees(0, 50);
        CHECKS.due("two", 2, desk.fits(0));
        CHECKS.due("look() of two that never differ", 0, desk.look());
        desk.forget();
        desk.sees(0, 49);
        CHECKS.due("one", 1, desk.fits(0));
        CHECKS.due("look() of one", YieldDesk.NONE, desk.look());
        desk.sees(0, 48);
        CHECKS.due("none", 0, desk.fits(0));
        CHECKS.due("look() of none", YieldDesk.NONE, desk.look());
        YieldDesk apart = Checks.deskOf("i 1 0;c 50;");
        apart.sees(0, 50);
        CHECKS.due("look() of two that differ by PERIOD 1", 1, apart.look());
    }

    private static void theEarliestOfSeveral() {
        CHECKS.sentence("the greatest number of these DRAFTS that have one VOLUME is least, of several the earliest");
        CHECKS.due("all alike, always", 0, new YieldDesk().look());
        CHECKS.due("all apart, at once", 0, Checks.deskOf("c 999;").look());
        CHECKS.due("all apart by PERIODS 2, 5, 8", 2, Checks.deskOf("i 99 99 0;c 999;").look());
        CHECKS.due("the last of twelve", 11, Checks.deskOf("i 99 99 99 99 99 99 99 99 99 99 99 0;c 99;").look());
        // CAP 98: drafts 98 and 99 are both at 0 behind a dry PERIOD; that is two, the least there is.
        CHECKS.due("two by two", 1, Checks.deskOf("i 99 0;c 98;").look());
        // Those at VOLUME 0 count as any others: sixty behind PERIOD 0, forty behind PERIOD 1.
        CHECKS.due("fewer at 0 later", 1, Checks.deskOf("i 0 60;c 40;").look());
        // All at CAP behind PERIOD 0, which is 999; each apart behind PERIOD 1.
        CHECKS.due("all at 999 at first", 1, Checks.deskOf("i 99 0;c 999;").look());
    }

    private static void theLastPeriodLooked() {
        CHECKS.sentence("LOOK: the PERIOD (0 to 39)");
        // Found by a search: ahead of PERIOD 39 two or more always share a VOLUME, behind it none does.
        YieldDesk desk = Checks.deskOf("i 26 15 11 30 0;c 903;e 2 9 3 2 4 6 3 9 0 8;");
        desk.sees(0, 903);
        CHECKS.due("fits(0)", 19, desk.fits(0));
        CHECKS.due("look()", 39, desk.look());
        YieldDesk other = Checks.deskOf("i 28 25 10 25 0;c 509;e 7 4 4 3 0 9 5 8 3 1;");
        other.sees(0, 509);
        CHECKS.due("fits(0)", 20, other.fits(0));
        CHECKS.due("look()", 39, other.look());
    }

    private static void noPeriodBeyondIt() {
        CHECKS.sentence("LOOK: the PERIOD (0 to 39)");
        // Behind PERIOD 40 no two would share a VOLUME; up to PERIOD 39 two do at least, first by PERIOD 1.
        YieldDesk desk = Checks.deskOf("i 10 7 8;c 100;e 3 8 4 6 7 8 1 8 7 3;");
        desk.sees(39, 100);
        CHECKS.due("fits(0)", 6, desk.fits(0));
        CHECKS.due("look()", 1, desk.look());
    }
}
