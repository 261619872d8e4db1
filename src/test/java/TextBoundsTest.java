/** THE TEXT's boundary cases, sentence by sentence of the document's part 1 and promises 1 to 4. */
public final class TextBoundsTest {
    private static final String TWELVE = "i 1 2 3 4 5 6 7 8 9 10 11 12";
    private static final String TEN = "e 1 2 3 4 5 6 7 8 9 0";
    private static final Checks CHECKS = new Checks();

    public static void main(String[] args) {
        howManyInflows();
        howGreatAnInflow();
        howGreatADraft();
        howGreatACap();
        howManyLosses();
        howGreatALoss();
        howManyLetters();
        everyLetter();
        blanks();
        items();
        eachKindOnce();
        whatIsNotTold();
        tokensOutOfPlace();
        numbersOfWrongForm();
        theFirstFault();
        endsTooEarly();
        emptyThen();
        CHECKS.end();
    }

    private static void fault(String text, int place) {
        YieldDesk desk = Checks.deskOf("i 5 6;d 7;c 8;e 1 1 1 1 1 1 1 1 1 1;");
        String ahead = Checks.stateOf(desk);
        CHECKS.due("tells() of \"" + text + "\"", -10 - place, Checks.tell(desk, text));
        CHECKS.same("behind \"" + text + "\"", ahead, Checks.stateOf(desk));
        CHECKS.due("letters of \"" + text + "\"", text.length(), desk.count(10));
        CHECKS.due("known behind \"" + text + "\"", 1, desk.count(11));
    }

    private static YieldDesk told(String text, int items) {
        YieldDesk desk = new YieldDesk();
        CHECKS.due("tells() of \"" + text + "\"", items, Checks.tell(desk, text));
        CHECKS.due("letters behind \"" + text + "\"", 0, desk.count(10));
        return desk;
    }

    private static void howManyInflows() {
        CHECKS.sentence("1 to 12 numbers (0 to 99; one of 0 at first)");
        fault("i ;", 2);
        StringBuilder text = new StringBuilder("i");
        for (int n = 1; n <= 12; n++) {
            text.append(' ').append(n);
            YieldDesk desk = told(text + ";", 1);
            CHECKS.due("n", n, desk.count(0));
            for (int t = 0; t < n; t++) {
                CHECKS.due("INFLOW " + t + " of " + n, t + 1, desk.inflow(t));
            }
            CHECKS.due("INFLOW " + n + " of " + n, YieldDesk.BAD, desk.inflow(n));
        }
        fault(TWELVE + " 13;", TWELVE.length() + 1);
        fault(TWELVE + " 0;", TWELVE.length() + 1);
        YieldDesk first = new YieldDesk();
        CHECKS.due("n at first", 1, first.count(0));
        CHECKS.due("INFLOW at first", 0, first.inflow(0));
        CHECKS.due("no second at first", YieldDesk.BAD, first.inflow(1));
    }

    private static void howGreatAnInflow() {
        CHECKS.sentence("1 to 12 numbers (0 to 99; one of 0 at first)");
        for (int v = 0; v <= 99; v++) {
            CHECKS.due("INFLOW", v, told("i" + v + ";", 1).inflow(0));
        }
        fault("i100;", 1);
        fault("i 100;", 2);
        fault("i 101;", 2);
        fault("i 999;", 2);
        fault("i 1 2 3 4 5 6 7 8 9 10 11 100;", 26);
        fault("i 99 99 100 99;", 8);
    }

    private static void howGreatADraft() {
        CHECKS.sentence("DRAFT (0 to 99; 0 at first)");
        CHECKS.due("DRAFT at first", 0, new YieldDesk().count(1));
        for (int q = 0; q <= 99; q++) {
            CHECKS.due("DRAFT", q, told("d" + q + ";", 1).count(1));
        }
        fault("d100;", 1);
        fault("d 100;", 2);
        fault("d 999;", 2);
    }

    private static void howGreatACap() {
        CHECKS.sentence("CAP (0 to 999; 0 at first)");
        CHECKS.due("CAP at first", 0, new YieldDesk().count(2));
        for (int c = 0; c <= 999; c++) {
            YieldDesk desk = told("c" + c + ";", 1);
            CHECKS.due("CAP", c, desk.count(2));
            CHECKS.due("VOLUME (CAP at first)", c, desk.count(4));
        }
        fault("c1000;", 1);
        fault("c 1000;", 2);
        fault("c 9999;", 2);
    }

    private static void howManyLosses() {
        CHECKS.sentence("LOSS: ten numbers 0 to 9 (all 0 at first)");
        for (int v = 0; v <= 999; v++) {
            CHECKS.due("LOSS of " + v + " at first", 0, new YieldDesk().loss(v));
        }
        fault("e;", 1);
        for (int many = 1; many <= 9; many++) {
            String fewer = TEN.substring(0, 1 + 2 * many);
            fault(fewer + ";", fewer.length());
        }
        YieldDesk desk = told(TEN + ";", 1);
        CHECKS.due("the first", 1, desk.loss(0));
        CHECKS.due("the ninth", 9, desk.loss(899));
        CHECKS.due("the tenth", 0, desk.loss(900));
        fault(TEN + " 0;", TEN.length() + 1);
        CHECKS.sentence("LOSS of a VOLUME v: that at place v by 100, cut.");
        for (int v = 0; v <= 999; v++) {
            CHECKS.due("LOSS of " + v, (v / 100 + 1) % 10, Checks.deskOf(TEN + ";").loss(v));
        }
    }

    private static void howGreatALoss() {
        CHECKS.sentence("LOSS: ten numbers 0 to 9");
        for (int place = 0; place < 10; place++) {
            for (int loss = 0; loss <= 9; loss++) {
                YieldDesk desk = told("e" + " 5".repeat(place) + " " + loss + " 5".repeat(9 - place) + ";", 1);
                CHECKS.due("LOSS " + place, loss, desk.loss(100 * place));
                CHECKS.due("LOSS " + place, loss, desk.loss(100 * place + 99));
            }
            fault("e" + " 5".repeat(place) + " 10" + " 5".repeat(9 - place) + ";", 2 + 2 * place);
        }
        fault("e 99 0 0 0 0 0 0 0 0 0;", 2);
    }

    private static void howManyLetters() {
        CHECKS.sentence("THE TEXT is told letter by letter (120 letters at most)");
        for (int many = 118; many <= 120; many++) {
            YieldDesk desk = new YieldDesk();
            String text = "d 4" + " ".repeat(many - 4) + ";";
            for (int i = 0; i < many; i++) {
                CHECKS.due("letter " + i, i + 1, desk.type(text.charAt(i)));
            }
            CHECKS.due("letters", many, desk.count(10));
            CHECKS.due("tells() of " + many, 1, desk.tells());
            CHECKS.due("DRAFT", 4, desk.count(1));
        }
        CHECKS.sentence("FULL: 120.");
        YieldDesk full = new YieldDesk();
        Checks.type(full, "d 4;c 5".concat(" ".repeat(113)));
        CHECKS.due("the 121st", YieldDesk.FULL, full.type(';'));
        CHECKS.due("letters", 120, full.count(10));
        CHECKS.due("the 121st is not there", -130, full.tells());
        CHECKS.due("the 121st again", YieldDesk.FULL, full.type(';'));
        CHECKS.due("BAD goes ahead of FULL", YieldDesk.BAD, full.type(256));
        CHECKS.due("BAD goes ahead of FULL", YieldDesk.BAD, full.type(-1));
        CHECKS.sentence("THE TEXT is empty: how many letters it had.");
        CHECKS.due("clear() of a full one", 120, full.clear());
        CHECKS.due("clear() of an empty one", 0, full.clear());
        CHECKS.due("room again", 1, full.type('d'));
        CHECKS.due("the older letters are gone", -11, full.tells());
    }

    private static void everyLetter() {
        CHECKS.sentence("A letter (0 .. 255) comes to THE TEXT: how many it has. BAD");
        for (int letter = -3; letter <= 258; letter++) {
            boolean isLetter = letter >= 0 && letter <= 255;
            YieldDesk desk = new YieldDesk();
            CHECKS.due("type(" + letter + ")", isLetter ? 1 : YieldDesk.BAD, desk.type(letter));
            CHECKS.due("letters", isLetter ? 1 : 0, desk.count(10));
        }
        CHECKS.sentence("of any other letter, .. that TOKEN's");
        for (int letter = 0; letter <= 255; letter++) {
            boolean opens = letter == 'i' || letter == 'd' || letter == 'c' || letter == 'e';
            YieldDesk desk = new YieldDesk();
            desk.type(letter);
            int want = letter == ' ' ? 0 : opens ? -11 : -10;
            CHECKS.due("tells() of letter " + letter, want, desk.tells());
            YieldDesk within = new YieldDesk();
            Checks.type(within, "d 5 ");
            within.type(letter);
            int end = letter == ';' ? 1 : letter == ' ' ? -15 : -14;
            CHECKS.due("tells() of \"d 5 \" and letter " + letter, end, within.tells());
        }
    }

    private static void blanks() {
        CHECKS.sentence("blanks (32) may stand ahead of, between and behind TOKENS (needed between two NUMBERS alone)");
        told("", 0);
        told(" ", 0);
        told(" ".repeat(120), 0);
        String[] same = {"i1 2;d3;c4;", "   i1 2;d3;c4;", "i1 2;d3;c4;   ", "i 1 2 ; d 3 ; c 4 ;",
            "  i  1  2  ;  d  3  ;  c  4  ;  ", "c4;d3;i1 2;"};
        String want = Checks.stateOf(told(same[0], 3));
        for (String text : same) {
            CHECKS.same("\"" + text + "\"", want, Checks.stateOf(told(text, 3)));
        }
        CHECKS.due("one NUMBER without a blank", 12, told("i12;", 1).inflow(0));
        CHECKS.due("two with one", 2, told("i1 2;", 1).inflow(1));
        fault("d 1" + (char) 9 + ";", 3);
        fault("d" + (char) 160 + "1;", 1);
        fault((char) 31 + "d 1;", 0);
        fault((char) 33 + "d 1;", 0);
    }

    private static void items() {
        CHECKS.sentence("It tells all of these by ITEMS (none, too; each kind once at most ..), each ended by ;");
        String[] items = {"i 1;", "d 2;", "c 3;", TEN + ";"};
        for (int set = 0; set < 16; set++) {
            StringBuilder text = new StringBuilder();
            for (int i = 0; i < 4; i++) {
                if ((set >> i & 1) == 1) {
                    text.append(items[i]);
                }
            }
            told(text.toString(), Integer.bitCount(set));
        }
        fault("i 1 d 2;", 4);
        fault("d 1 c 2;", 4);
        fault(TEN + " d 2;", TEN.length() + 1);
        fault("d 2;;", 4);
        fault(";", 0);
    }

    private static void eachKindOnce() {
        CHECKS.sentence("each kind once at most .. a letter again");
        String[] items = {"i 1;", "d 2;", "c 3;", TEN + ";"};
        for (int again = 0; again < 4; again++) {
            StringBuilder text = new StringBuilder();
            for (int i = 0; i < 4; i++) {
                text.append(items[(again + i) % 4]);
            }
            fault(text + items[again], text.length());
            fault(items[again] + items[again], items[again].length());
            String open = items[again].substring(0, items[again].length() - 1);
            fault(open + items[again].charAt(0), open.length());
        }
    }

    private static void whatIsNotTold() {
        CHECKS.sentence("what is not told is as at first");
        String all = "i 7 8;d 9;c 10;" + TEN + ";";
        String atFirst = Checks.stateOf(new YieldDesk());
        for (String text : new String[] {"", "  ", "i 0;", "d 0;", "c 0;", "e 0 0 0 0 0 0 0 0 0 0;"}) {
            YieldDesk desk = Checks.deskOf(all);
            desk.passes(9);
            CHECKS.due("tells()", text.isBlank() ? 0 : 1, Checks.tell(desk, text));
            CHECKS.same("behind \"" + text + "\"", atFirst, Checks.stateOf(desk));
        }
        YieldDesk desk = Checks.deskOf(all);
        Checks.tell(desk, "d 4;");
        CHECKS.same("DRAFT alone", "1 4 0 0 0 0 0 0 0 i0e0e0e0e0e0e0e0e0e0e0", Checks.stateOf(desk));
        Checks.tell(desk, "c 4;");
        CHECKS.same("CAP alone", "1 0 4 0 4 0 0 0 0 i0e0e0e0e0e0e0e0e0e0e0", Checks.stateOf(desk));
        Checks.tell(desk, "i 4 5;");
        CHECKS.same("INFLOWS alone", "2 0 0 0 0 0 0 0 9 i4i5e0e0e0e0e0e0e0e0e0e0", Checks.stateOf(desk));
        Checks.tell(desk, TEN + ";");
        CHECKS.same("LOSS alone", "1 0 0 0 0 0 0 0 0 i0e1e2e3e4e5e6e7e8e9e0", Checks.stateOf(desk));
    }

    private static void tokensOutOfPlace() {
        CHECKS.sentence("FAULT: the place of the first letter of the first TOKEN that can't stand there");
        fault("5", 0);
        fault(" 5;", 1);
        fault("d 1;5", 4);
        fault("dd", 1);
        fault("d i", 2);
        fault("i c 1;", 2);
        fault("e d", 2);
        fault("d 1 1;", 4);
        fault("c 1 1;", 4);
        fault("d 1 100;", 4);
        CHECKS.sentence("a 13th N, an 11th E");
        fault(TWELVE + "  99", TWELVE.length() + 2);
        fault(TEN + "  5", TEN.length() + 2);
        CHECKS.sentence("a ; ahead of the first N, of the tenth E");
        fault("i;", 1);
        fault("i   ;", 4);
        fault("d;", 1);
        fault("c;", 1);
        fault("e 1 2 3 4 5 6 7 8 9;", 19);
        fault("e 1 2 3 4 5 6 7 8 9  ;", 21);
        CHECKS.sentence("a NUMBER beyond what it may be, too");
        fault("i 1 100", 4);
        fault("d 100", 2);
        fault("c 1000", 2);
        fault("e 1 10", 4);
    }

    private static void numbersOfWrongForm() {
        CHECKS.sentence("a NUMBER above 999 or with a 0 ahead of others, that TOKEN's");
        told("c 999;", 1);
        fault("c 1000;", 2);
        fault("c 9999999999;", 2);
        fault("c 2147483648;", 2);
        fault("c 4294967296;", 2);
        fault("c 18446744073709551616;", 2);
        fault("c " + "9".repeat(117) + ";", 2);
        told("c 0;", 1);
        fault("c 00;", 2);
        fault("c 01;", 2);
        fault("c 000;", 2);
        fault("c 0999;", 2);
        fault("i 0 00;", 4);
        fault("e 0 01", 4);
        fault("d 09;", 2);
        told("i 0 10 20;", 1);
        fault("00", 0);
        fault("d 1;01", 4);
        fault("d 1 01;", 4);
    }

    private static void theFirstFault() {
        CHECKS.sentence("the first TOKEN that can't stand there");
        fault("i 1 x 2 y;", 4);
        fault("d 100 x", 2);
        fault("d 5x100;", 3);
        fault("x;;", 0);
        fault("d 1;d 007;", 4);
        fault("i 1;c 5;i;d 1000;", 8);
        fault("d 1;" + " ".repeat(115) + "x", 119);
    }

    private static void endsTooEarly() {
        CHECKS.sentence("the text's length, if it ends too early");
        fault("i", 1);
        fault("e", 1);
        fault("c ", 2);
        fault("  d", 3);
        fault("i 1", 3);
        fault("d 99", 4);
        fault("c 999  ", 7);
        fault(TWELVE, TWELVE.length());
        fault(TEN, TEN.length());
        fault("e 1 2 3 4 5 6 7 8 9", 19);
        fault("d 1;c 2", 7);
        fault("d 1;c 2;i", 9);
        fault("i 1" + " ".repeat(116), 119);
        fault("i 1" + " ".repeat(117), 120);
    }

    private static void emptyThen() {
        CHECKS.sentence("THE TEXT tells all anew, and is empty then: how many ITEMS.");
        YieldDesk desk = Checks.deskOf("d 5;c 6;");
        CHECKS.due("letters", 0, desk.count(10));
        CHECKS.due("an empty text tells", 0, desk.tells());
        CHECKS.due("DRAFT", 0, desk.count(1));
        CHECKS.due("known", 2, desk.count(11));
        CHECKS.due("a text that is mended", -13, Checks.tell(desk, "d 7"));
        CHECKS.due("goes on", 4, desk.type(';'));
        CHECKS.due("and tells", 1, desk.tells());
        CHECKS.due("DRAFT", 7, desk.count(1));
    }
}
