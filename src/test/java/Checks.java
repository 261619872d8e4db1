/** What every test here shares: a count of wrong answers, texts typed in, and the exit code. */
final class Checks {
    private int wrong = 0;
    private int asked = 0;
    private String sentence = "";

    /** What the checks from here on are about, in the document's words. */
    void sentence(String words) {
        sentence = "[" + words + "] ";
    }

    void due(String call, long want, long got) {
        asked++;
        if (got != want) {
            wrong++;
            System.out.println(sentence + call + " answered " + got + ", due is " + want);
        }
    }

    void same(String what, String want, String got) {
        asked++;
        if (!got.equals(want)) {
            wrong++;
            System.out.println(sentence + what + " is " + got + ", due is " + want);
        }
    }

    void due(String call, boolean holds) {
        due(call, 1, holds ? 1 : 0);
    }

    void end() {
        System.out.println(asked + " answers, " + wrong + " wrong");
        if (wrong != 0) {
            System.exit(1);
        }
    }

    static void type(YieldDesk desk, String text) {
        for (int i = 0; i < text.length(); i++) {
            desk.type(text.charAt(i));
        }
    }

    static int tell(YieldDesk desk, String text) {
        desk.clear();
        type(desk, text);
        return desk.tells();
    }

    static YieldDesk deskOf(String text) {
        YieldDesk desk = new YieldDesk();
        if (tell(desk, text) < 0) {
            throw new IllegalStateException(text);
        }
        return desk;
    }

    static void passTo(YieldDesk desk, int time) {
        for (int left = time - desk.count(3); left > 0; left -= 99) {
            desk.passes(Math.min(left, 99));
        }
    }

    /** count(0) to count(8), inflows and losses: all that parts 1 and 2 tell. */
    static String stateOf(YieldDesk desk) {
        StringBuilder all = new StringBuilder();
        for (int what = 0; what <= 8; what++) {
            all.append(desk.count(what)).append(' ');
        }
        int n = desk.count(0);
        for (int t = 0; t < n; t++) {
            all.append('i').append(desk.inflow(t));
        }
        for (int v = 0; v < 1000; v += 100) {
            all.append('e').append(desk.loss(v));
        }
        return all.toString();
    }
}
