/** What every test here shares: a count of wrong answers, texts typed in, and the exit code. */
final class Checks {
    private int wrong = 0;
    private int asked = 0;

    void due(String call, long want, long got) {
        asked++;
        if (got != want) {
            wrong++;
            System.out.println(call + " answered " + got + ", due is " + want);
        }
    }

    void due(String call, boolean holds) {
        due(call, 1, holds ? 1 : 0);
    }

    void end() {
        System.out.println(asked + " answers, " + wrong + " wrong");
        if (wrong != 0) {
            System.exit(1);
        }
    }

    static void type(YieldDesk desk, String text) {
        for (int i = 0; i < text.length(); i++) {
            desk.type(text.charAt(i));
        }
    }

    static int tell(YieldDesk desk, String text) {
        desk.clear();
        type(desk, text);
        return desk.tells();
    }

    static YieldDesk deskOf(String text) {
        YieldDesk desk = new YieldDesk();
        if (tell(desk, text) < 0) {
            throw new IllegalStateException(text);
        }
        return desk;
    }

    /** count(0) to count(8), inflows and losses: all that parts 1 and 2 tell. */
    static String stateOf(YieldDesk desk) {
        StringBuilder all = new StringBuilder();
        for (int what = 0; what <= 8; what++) {
            all.append(desk.count(what)).append(' ');
        }
        for (int t = 0; t < desk.count(0); t++) {
            all.append('i').append(desk.inflow(t));
        }
        for (int v = 0; v < 1000; v += 100) {
            all.append('e').append(desk.loss(v));
        }
        return all.toString();
    }
}
