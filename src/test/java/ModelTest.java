import java.util.Random;

/** All promises: long mixed runs of calls, each answered by the program and by PlainModel. */
public final class ModelTest {
    private static final int OBJECTS = 1500;
    private static final int CALLS = 512;
    private static final Checks CHECKS = new Checks();

    private final Random random;
    private final YieldDesk desk = new YieldDesk();
    private final PlainModel model = new PlainModel();
    private final int scale;
    private String script = "";
    private int calls = 0;
    private String waiting = "";

    private ModelTest(long seed) {
        random = new Random(seed);
        scale = new int[] {1, 4, 20, 99}[random.nextInt(4)];
    }

    public static void main(String[] args) {
        for (int i = 0; i < OBJECTS; i++) {
            new ModelTest(i).live();
        }
        CHECKS.end();
    }

    private void live() {
        while (calls < CALLS) {
            if (waiting.isEmpty()) {
                step();
            } else {
                int letter = waiting.charAt(0);
                waiting = waiting.substring(1);
                same("type(" + letter + ")", model.type(letter), desk.type(letter));
                if (waiting.isEmpty() && calls < CALLS) {
                    same("tells()", model.tells(), desk.tells());
                }
            }
        }
    }

    private void same(String call, int want, int got) {
        calls++;
        if (want != got) {
            CHECKS.due(script + call, want, got);
            calls = CALLS;
        } else {
            CHECKS.due(call, want, got);
        }
        script += call + "=" + want + " ";
    }

    /** From 0 to most, often at or just beyond an end. */
    private int number(int most) {
        int kind = random.nextInt(24);
        if (kind == 0) return -1;
        if (kind == 1) return most + 1;
        if (kind == 2) return most;
        if (kind == 3) return 0;
        if (kind == 4) return random.nextInt();
        return random.nextInt(most + 1);
    }

    private String text() {
        StringBuilder all = new StringBuilder();
        String kinds = random.nextInt(3) == 0 ? "eidc" : "idc";
        for (int i = 0; i < kinds.length(); i++) {
            if (random.nextInt(8) > 0) all.append(item(kinds.charAt(i)));
        }
        int faults = random.nextInt(3) == 0 ? 1 + random.nextInt(2) : 0;
        for (int i = 0; i < faults && all.length() > 0; i++) {
            int place = random.nextInt(all.length());
            String signs = "idce;0129 x";
            char sign = signs.charAt(random.nextInt(signs.length()));
            switch (random.nextInt(4)) {
                case 0: all.insert(place, sign); break;
                case 1: all.setCharAt(place, sign); break;
                case 2: all.deleteCharAt(place); break;
                default: all.setLength(place); break;
            }
        }
        return all.toString();
    }

    private String item(char kind) {
        int most = kind == 'e' ? random.nextInt(10) : kind == 'c' ? new int[] {5, 99, 250, 999}[random.nextInt(4)] : scale;
        int many = kind == 'e' ? 10 : kind == 'i' ? 1 + random.nextInt(12) : 1;
        StringBuilder item = new StringBuilder().append(kind);
        for (int i = 0; i < many; i++) {
            if (i > 0 || random.nextBoolean()) item.append(' ');
            item.append(random.nextInt(most + 1));
        }
        if (random.nextInt(5) == 0) item.append(' ');
        return item.append(';').toString();
    }

    private void step() {
        int a;
        int b;
        int c;
        switch (random.nextInt(30)) {
            case 0:
                same("clear()", model.clear(), desk.clear());
                waiting = text();
                break;
            case 1:
                a = number(255);
                same("type(" + a + ")", model.type(a), desk.type(a));
                break;
            case 2:
                same("tells()", model.tells(), desk.tells());
                break;
            case 3: case 4:
                a = random.nextInt(3) == 0 ? number(99) : 1 + random.nextInt(9);
                same("passes(" + a + ")", model.passes(a), desk.passes(a));
                break;
            case 5:
                a = random.nextInt(3) == 0 ? number(99) : random.nextInt(scale + 1);
                same("drafts(" + a + ")", model.drafts(a), desk.drafts(a));
                break;
            case 6:
                a = random.nextInt(3) == 0 ? number(999) : random.nextInt(12 * scale);
                a = Math.min(a, 1000);
                same("caps(" + a + ")", model.caps(a), desk.caps(a));
                break;
            case 7:
                a = random.nextInt(3) == 0 ? number(11) : random.nextInt(model.count(0));
                b = random.nextInt(3) == 0 ? number(99) : random.nextInt(scale + 1);
                same("flows(" + a + ", " + b + ")", model.flows(a, b), desk.flows(a, b));
                break;
            case 8:
                same("undo()", model.undo(), desk.undo());
                break;
            case 9:
                a = number(11);
                same("inflow(" + a + ")", model.inflow(a), desk.inflow(a));
                break;
            case 10:
                a = number(999);
                same("loss(" + a + ")", model.loss(a), desk.loss(a));
                break;
            case 11:
                a = number(12);
                same("lowest(" + a + ")", model.lowest(a), desk.lowest(a));
                break;
            case 12:
                a = random.nextBoolean() ? number(99) : number(scale);
                same("need(" + a + ")", model.need(a), desk.need(a));
                break;
            case 13: case 14:
                a = random.nextBoolean() ? number(999) : number(scale);
                b = number(1);
                same("sure(" + a + ", " + b + ")", model.sure(a, b), desk.sure(a, b));
                break;
            case 15: case 16:
                a = number(6);
                b = a == -1 ? number(0) : number(2);
                same("piece(" + a + ", " + b + ")", model.piece(a, b), desk.piece(a, b));
                break;
            case 17:
                a = number(120);
                same("least(" + a + ")", model.least(a), desk.least(a));
                break;
            case 18:
                a = number(2);
                same("round(" + a + ")", model.round(a), desk.round(a));
                break;
            case 19:
                a = random.nextBoolean() ? number(999) : number(40);
                same("run(" + a + ")", model.run(a), desk.run(a));
                break;
            case 20: case 21:
                a = number(8);
                b = number(10);
                c = number(1);
                same("odds(" + a + ", " + b + ", " + c + ")", model.odds(a, b, c), desk.odds(a, b, c));
                break;
            case 22: case 23:
                a = number(39);
                b = random.nextInt(4) == 0 ? number(999) : Math.max(0, model.run(Math.max(0, Math.min(a, 39))));
                same("sees(" + a + ", " + b + ")", model.sees(a, b), desk.sees(a, b));
                break;
            case 24:
                same("forget()", model.forget(), desk.forget());
                break;
            case 25:
                a = number(1);
                same("fits(" + a + ")", model.fits(a), desk.fits(a));
                break;
            case 26:
                same("look()", model.look(), desk.look());
                break;
            case 27:
                a = number(1);
                same("keep(" + a + ")", model.keep(a), desk.keep(a));
                break;
            case 28:
                a = number(1);
                same("back(" + a + ")", model.back(a), desk.back(a));
                break;
            default:
                a = number(11);
                same("count(" + a + ")", model.count(a), desk.count(a));
                break;
        }
    }
}
