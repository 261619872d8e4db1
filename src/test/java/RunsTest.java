/** Promises 16 to 19: LEAST CAP, ROUND, the FULL RUN, ODDS. */
public final class RunsTest {
    private static final Checks CHECKS = new Checks();

    public static void main(String[] args) {
        leastCaps();
        leastCapByTheSun();
        rounds();
        runs();
        odds();
        oddsFromNow();
        CHECKS.end();
    }

    private static void leastCaps() {
        YieldDesk desk = Checks.deskOf("i 0 0 9;d 3;c 1;");
        int[] caps = {3, 6, 6, 6, 6, 6};
        for (int m = 1; m <= caps.length; m++) {
            CHECKS.due("least(" + m + ")", caps[m - 1], desk.least(m));
        }
        CHECKS.due("least(120)", 6, desk.least(120));
        CHECKS.due("least(0)", YieldDesk.BAD, desk.least(0));
        CHECKS.due("least(-1)", YieldDesk.BAD, desk.least(-1));
        CHECKS.due("least(121)", YieldDesk.BAD, desk.least(121));
        CHECKS.due("CAP stands", 1, desk.count(2));
        YieldDesk greatest = Checks.deskOf("i 0;d 27;");
        CHECKS.due("least(37)", 999, greatest.least(37));
        CHECKS.due("least(38)", YieldDesk.NONE, greatest.least(38));
    }

    private static void leastCapByTheSun() {
        // At 0 the sun takes 9; from 100 on it takes none, so just 100 holds.
        YieldDesk desk = Checks.deskOf("i 0;d 0;e 9 0 0 0 0 0 0 0 0 0;");
        CHECKS.due("least(1)", 9, desk.least(1));
        CHECKS.due("least(11)", 99, desk.least(11));
        CHECKS.due("least(12)", 100, desk.least(12));
        CHECKS.due("least(120)", 100, desk.least(120));
        // From 100 on ten are gone by each PERIOD, below it one: 100 lasts less long than 99.
        YieldDesk thirsty = Checks.deskOf("i 5;d 6;e 0 9 9 9 9 9 9 9 9 9;");
        CHECKS.due("least(1)", 1, thirsty.least(1));
        CHECKS.due("least(99)", 99, thirsty.least(99));
        CHECKS.due("least(100)", 109, thirsty.least(100));
        CHECKS.due("least(101)", 119, thirsty.least(101));
    }

    private static void round(YieldDesk desk, int earlier, int between, int fails) {
        CHECKS.due("round(0)", earlier, desk.round(0));
        CHECKS.due("round(1)", between, desk.round(1));
        CHECKS.due("round(2)", fails, desk.round(2));
    }

    private static void rounds() {
        round(new YieldDesk(), 0, 1, 0);
        round(Checks.deskOf("i 1 1;d 1;c 9;"), 0, 1, 0);
        round(Checks.deskOf("i 0 1;d 1;c 4;"), 4, 1, 1);
        round(Checks.deskOf("i 0 0;d 9;c 5;"), 1, 1, 2);
        round(Checks.deskOf("i 9;d 10;c 999;"), 999, 1, 1);
        // 100 loses 5 and becomes 98, which loses none and becomes 101, cut to 100.
        round(Checks.deskOf("i 3;d 0;c 100;e 0 5 0 0 0 0 0 0 0 0;"), 0, 2, 0);
        // 102, 100, 98, 101, 99, 102.
        round(Checks.deskOf("i 3;d 0;c 102;e 0 5 0 0 0 0 0 0 0 0;"), 0, 5, 0);
        YieldDesk desk = Checks.deskOf("i 0 1;d 1;c 4;");
        desk.passes(9);
        desk.drafts(0);
        round(desk, 0, 1, 0);
        CHECKS.due("round(-1)", YieldDesk.BAD, desk.round(-1));
        CHECKS.due("round(3)", YieldDesk.BAD, desk.round(3));
    }

    private static void runs() {
        YieldDesk desk = Checks.deskOf("i 10 0 3;d 6;c 8;");
        int[] volumes = {8, 2, 0, 4, 0, 0, 4, 0, 0};
        for (int t = 0; t < volumes.length; t++) {
            CHECKS.due("run(" + t + ")", volumes[t], desk.run(t));
        }
        desk.passes(4);
        CHECKS.due("run(0) whatever NOW is", 8, desk.run(0));
        CHECKS.due("run(999)", 4, desk.run(999));
        CHECKS.due("run(998)", 0, desk.run(998));
        CHECKS.due("run(-1)", YieldDesk.BAD, desk.run(-1));
        CHECKS.due("run(1000)", YieldDesk.BAD, desk.run(1000));
        CHECKS.due("TIME stands", 4, desk.count(3));
        desk.caps(20);
        CHECKS.due("run(0) of another CAP", 20, desk.run(0));
        CHECKS.due("slow", 0, Checks.deskOf("i 0;d 1;c 999;").run(999));
        CHECKS.due("slow", 1, Checks.deskOf("i 0;d 1;c 999;").run(997));
    }

    private static void odd(YieldDesk desk, int k, int x, int upper, int lower) {
        CHECKS.due("odds(" + k + ", " + x + ", 0)", upper, desk.odds(k, x, 0));
        CHECKS.due("odds(" + k + ", " + x + ", 1)", lower, desk.odds(k, x, 1));
    }

    private static void odds() {
        YieldDesk desk = Checks.deskOf("i 5;d 3;");
        odd(desk, 0, 5, 1, 1);
        odd(desk, 1, 0, 1, 1);
        odd(desk, 1, 3, 7, 10);
        odd(desk, 1, 10, 0, 1);
        odd(desk, 2, 5, 1, 4);
        odd(desk, 8, 1, 43046721, 100000000);
        odd(desk, 8, 0, 1, 1);
        odd(desk, 8, 10, 0, 1);
        odd(Checks.deskOf("i 5;d 2;"), 8, 10, 1, 1);
        CHECKS.due("odds(-1, 0, 0)", YieldDesk.BAD, desk.odds(-1, 0, 0));
        CHECKS.due("odds(9, 0, 0)", YieldDesk.BAD, desk.odds(9, 0, 0));
        CHECKS.due("odds(0, -1, 0)", YieldDesk.BAD, desk.odds(0, -1, 0));
        CHECKS.due("odds(0, 11, 0)", YieldDesk.BAD, desk.odds(0, 11, 0));
        CHECKS.due("odds(0, 0, -1)", YieldDesk.BAD, desk.odds(0, 0, -1));
        CHECKS.due("odds(0, 0, 2)", YieldDesk.BAD, desk.odds(0, 0, 2));
    }

    private static void oddsFromNow() {
        // Behind PERIOD 0 it is 2 or, halved, 0; from 0 PERIOD 1 fails, whole or halved.
        YieldDesk desk = Checks.deskOf("i 3 2;d 3;c 2;");
        odd(desk, 1, 4, 1, 1);
        odd(desk, 2, 4, 3, 5);
        desk.passes(1);
        odd(desk, 1, 4, 1, 1);
        desk.caps(1);
        odd(desk, 1, 4, 3, 5);
        for (int i = 0; i < 10; i++) {
            desk.passes(99);
        }
        desk.passes(8);
        CHECKS.due("TIME", 999, desk.count(3));
        CHECKS.due("VOLUME", 0, desk.count(4));
        odd(desk, 1, 5, 0, 1);
        desk.flows(1, 6);
        odd(desk, 1, 5, 1, 1);
        odd(desk, 2, 5, 1, 2);
        CHECKS.due("TIME stands", 999, desk.count(3));
    }
}
