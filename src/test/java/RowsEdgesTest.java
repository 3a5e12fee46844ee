/** The boundary cases that promises 1 to 13 name (rows, texts, courts), a test a sentence. */
final class RowsEdgesTest extends Sentences {
    private RowsEdgesTest() {
        super("RowsEdgesTest");
    }

    public static void main(String[] args) {
        RowsEdgesTest test = new RowsEdgesTest();
        test.newObject();
        test.row();
        test.lay();
        test.at();
        test.tear();
        test.copy();
        test.mean();
        test.text();
        test.put();
        test.fault();
        test.court();
        test.man();
        test.mark();
        test.allTested(1, 13);
        test.check.end();
    }

    private void newObject() {
        says(1, "No ROWS, TEXTS, MEN.");
        due("ROWS", x.count(8), 0);
        due("TEXTS", x.count(9), 0);
        due("MEN", x.count(0), 0);
        due("kept COURTS", x.count(10), 0);
        due("DEEDS", x.count(2), 0);
        for (int r = 0; r <= 5; r++) {
            int row = r;
            finds("tear(" + r + ")", () -> x.tear(row), NOTHING);
        }
        for (int t = 0; t <= 3; t++) {
            int text = t;
            finds("fault(" + t + ")", () -> x.fault(text), NOTHING);
        }
        refuses("man(0, 0)", () -> x.man(0, 0), BAD);
    }

    private void row() {
        says(2, "A ROW is there with n ints 0: n.");
        due("row(0, 0)", x.row(0, 0), 0);
        holds(0);
        due("row(0, 1)", x.row(0, 1), 1);
        holds(0, 0);
        due("row(5, 40)", x.row(5, 40), 40);
        for (int i = 0; i < 40; i++) {
            asks("lay(5, " + i + ", 7)", x.lay(5, i, 7), 1, 0);
        }
        due("row(5, 3) anew", x.row(5, 3), 3);
        holds(5, 0, 0, 0);
        due("row(5, 40) anew", x.row(5, 40), 40);
        for (int i = 0; i < 40; i++) {
            asks("at(5, " + i + ")", x.at(5, i), 1, 0);
        }
        due("ROWS", x.count(8), 2);

        says(2, "BAD: also n above 40;");
        badBeside(0, 5, "row(r, 1)", r -> x.row(r, 1));
        badBeside(0, 5, "row(r, -1)", r -> x.row(r, -1));
        row(0, 4, 5);
        for (int n : new int[] {41, 42, MOST}) {
            refuses("row(0, " + n + ")", () -> x.row(0, n), BAD);
        }
        holds(0, 4, 5);

        says(2, "SIZE: below 0.");
        finds("row(0, -1)", () -> x.row(0, -1), SIZE);
        finds("row(0, least)", () -> x.row(0, LEAST), SIZE);
        finds("at(0, 0), as there is no ROW yet", () -> x.at(0, 0), NOTHING);
        row(0, 4, 5);
        finds("row(0, -1)", () -> x.row(0, -1), SIZE);
        holds(0, 4, 5);
    }

    private void lay() {
        says(3, "Place i of a ROW is v: what it was, told by asked(): 1.");
        x.row(0, 40);
        x.row(1, 1);
        asks("lay(0, 39, most)", x.lay(0, 39, MOST), 1, 0);
        asks("lay(0, 39, least)", x.lay(0, 39, LEAST), 1, MOST);
        asks("lay(0, 39, -9)", x.lay(0, 39, -9), 1, LEAST);
        asks("lay(0, 0, 1)", x.lay(0, 0, 1), 1, 0);
        asks("lay(0, 39, 0)", x.lay(0, 39, 0), 1, -9);
        asks("at(0, 0)", x.at(0, 0), 1, 1);
        asks("at(0, 1)", x.at(0, 1), 1, 0);
        asks("at(1, 0)", x.at(1, 0), 1, 0);

        says(3, "BAD;");
        badBeside(0, 5, "lay(r, 0, 1)", r -> x.lay(r, 0, 1));
        badBeside(0, 5, "lay(r, -1, 1)", r -> x.lay(r, -1, 1));
        says(3, "NOTHING;");
        finds("lay(0, 0, 1)", () -> x.lay(0, 0, 1), NOTHING);
        finds("lay(5, -1, 1)", () -> x.lay(5, -1, 1), NOTHING);
        x.row(0, 1);
        x.tear(0);
        finds("lay(0, 0, 1) behind tear()", () -> x.lay(0, 0, 1), NOTHING);
        says(3, "BEYOND.");
        x.row(0, 0);
        beyond(0, "lay() of 0", i -> x.lay(0, i, 1));
        x.row(0, 40);
        beyond(40, "lay() of 40", i -> x.lay(0, i, 1));
        x.row(0, 2);
        beyond(2, "lay() of 2, once 40", i -> x.lay(0, i, 1));
    }

    private void at() {
        says(4, "Place i of a ROW, told by asked(): 1.");
        x.row(5, 40);
        x.lay(5, 0, LEAST);
        x.lay(5, 39, MOST);
        asks("at(5, 0)", x.at(5, 0), 1, LEAST);
        asks("at(5, 39)", x.at(5, 39), 1, MOST);
        asks("at(5, 38)", x.at(5, 38), 1, 0);

        says(4, "BAD;");
        badBeside(0, 5, "at(r, 0)", r -> x.at(r, 0));
        badBeside(0, 5, "at(r, -1)", r -> x.at(r, -1));
        says(4, "NOTHING;");
        finds("at(0, 0)", () -> x.at(0, 0), NOTHING);
        finds("at(5, 40)", () -> x.at(5, 40), NOTHING);
        says(4, "BEYOND.");
        x.row(0, 0);
        beyond(0, "at() of 0", i -> x.at(0, i));
        x.row(0, 40);
        beyond(40, "at() of 40", i -> x.at(0, i));
        x.row(0, 39);
        beyond(39, "at() of 39, once 40", i -> x.at(0, i));
    }

    private void tear() {
        says(5, "A ROW is missing: 1.");
        x.row(0, 0);
        row(5, 6, 7);
        due("tear(0) of none", x.tear(0), 1);
        due("tear(5)", x.tear(5), 1);
        due("ROWS", x.count(8), 0);
        finds("at(5, 0)", () -> x.at(5, 0), NOTHING);
        x.row(5, 2);
        holds(5, 0, 0);

        says(5, "BAD;");
        badBeside(0, 5, "tear(r)", r -> x.tear(r));
        says(5, "NOTHING.");
        finds("tear(0)", () -> x.tear(0), NOTHING);
        x.row(0, 1);
        x.tear(0);
        finds("tear(0) again", () -> x.tear(0), NOTHING);
    }

    private void copy() {
        says(6, "n places of a ROW, from one on, come to those of another one (perhaps itself) from one on, as if "
                + "taken ahead: 1.");
        row(0, 1, 2, 3, 4, 5);
        row(1, 9, 9, 9, 9, 9);
        due("copy of all", x.copy(0, 0, 1, 0, 5), 1);
        holds(1, 1, 2, 3, 4, 5);
        due("copy of the last to the first", x.copy(0, 4, 1, 0, 1), 1);
        holds(1, 5, 2, 3, 4, 5);
        due("copy onto itself, ahead", x.copy(0, 0, 0, 1, 4), 1);
        holds(0, 1, 1, 2, 3, 4);
        due("copy onto itself, behind", x.copy(0, 1, 0, 0, 4), 1);
        holds(0, 1, 2, 3, 4, 4);
        due("copy onto itself, there", x.copy(0, 0, 0, 0, 5), 1);
        holds(0, 1, 2, 3, 4, 4);
        due("copy of none", x.copy(0, 2, 1, 2, 0), 1);
        holds(1, 5, 2, 3, 4, 5);
        x.row(2, 40);
        x.row(3, 40);
        x.lay(2, 39, 8);
        due("copy of 40", x.copy(2, 0, 3, 0, 40), 1);
        asks("the 40th", x.at(3, 39), 1, 8);
        x.row(4, 0);
        due("copy of none of none to none", x.copy(4, 0, 4, 0, 0), 1);

        says(6, "BAD;");
        x.row(0, 1);
        badBeside(0, 5, "copy from", r -> x.copy(r, 0, 0, 0, 1));
        badBeside(0, 5, "copy to", r -> x.copy(0, 0, r, 0, 1));

        says(6, "SIZE: n below 0;");
        row(0, 1, 2);
        finds("copy of -1", () -> x.copy(0, 1, 0, 1, -1), SIZE);
        finds("copy of the least", () -> x.copy(0, 0, 0, 0, LEAST), SIZE);

        says(6, "NOTHING: either;");
        row(0, 1, 2);
        finds("copy of one missing", () -> x.copy(1, 0, 0, 0, 0), NOTHING);
        finds("copy to one missing", () -> x.copy(0, 0, 1, 0, 0), NOTHING);
        finds("copy of one missing to itself", () -> x.copy(1, 0, 1, 0, 0), NOTHING);

        says(6, "BEYOND: not so many there (also with n 0, if i, j is below 0, or above its size).");
        row(0, 1, 2, 3);
        row(1, 4, 5);
        due("copy of none from behind the last", x.copy(0, 3, 1, 2, 0), 1);
        for (int i : new int[] {LEAST, -1, 4, MOST}) {
            finds("copy of none from " + i, () -> x.copy(0, i, 1, 0, 0), BEYOND);
            finds("copy of one from " + i, () -> x.copy(0, i, 1, 0, 1), BEYOND);
            finds("copy of the most from " + i, () -> x.copy(0, i, 1, 0, MOST), BEYOND);
        }
        for (int j : new int[] {LEAST, -1, 3, MOST}) {
            finds("copy of none to " + j, () -> x.copy(0, 0, 1, j, 0), BEYOND);
            finds("copy of one to " + j, () -> x.copy(0, 0, 1, j, 1), BEYOND);
            finds("copy of the most to " + j, () -> x.copy(0, 0, 1, j, MOST), BEYOND);
        }
        finds("copy of one more than there are", () -> x.copy(1, 0, 0, 0, 3), BEYOND);
        finds("copy of one more than there are behind 1", () -> x.copy(1, 1, 0, 0, 2), BEYOND);
        finds("copy of one from behind the last", () -> x.copy(0, 3, 1, 0, 1), BEYOND);
        finds("copy to one less than due", () -> x.copy(0, 0, 1, 0, 3), BEYOND);
        finds("copy to one less than due behind 1", () -> x.copy(0, 0, 1, 1, 2), BEYOND);
        holds(0, 1, 2, 3);
        holds(1, 4, 5);

        says(6, "(In this order.)");
        refuses("BAD ahead of SIZE", () -> x.copy(6, 0, 0, 0, -1), BAD);
        refuses("BAD ahead of NOTHING", () -> x.copy(0, 0, 6, 0, 1), BAD);
        finds("SIZE ahead of NOTHING", () -> x.copy(0, -1, 1, 0, -1), SIZE);
        x.row(0, 1);
        finds("SIZE ahead of BEYOND", () -> x.copy(0, 5, 0, 0, -1), SIZE);
        finds("NOTHING ahead of BEYOND", () -> x.copy(0, 5, 1, 0, 1), NOTHING);
    }

    private void mean() {
        says(7, "The mean of a ROW's ints, cut, told by asked(): 1.");
        row(0, LEAST);
        asks("mean of one", x.mean(0), 1, LEAST);
        row(0, 1, 2);
        asks("mean of 1, 2", x.mean(0), 1, 1);
        row(0, -1, -2);
        asks("mean of -1, -2", x.mean(0), 1, -1);
        row(0, LEAST, MOST);
        asks("mean of the least and the most", x.mean(0), 1, 0);
        x.row(0, 40);
        for (int i = 0; i < 40; i++) {
            x.lay(0, i, MOST);
        }
        asks("mean of 40 times the most", x.mean(0), 1, MOST);
        x.lay(0, 39, MOST - 1);
        asks("mean of a little less, cut", x.mean(0), 1, MOST - 1);
        for (int i = 0; i < 40; i++) {
            x.lay(0, i, LEAST);
        }
        asks("mean of 40 times the least", x.mean(0), 1, LEAST);
        x.lay(0, 39, LEAST + 1);
        asks("mean of a little more, cut", x.mean(0), 1, LEAST + 1);
        x.row(0, 3);
        x.lay(0, 2, 2);
        asks("mean of what is in a ROW now", x.mean(0), 1, 0);

        says(7, "BAD;");
        badBeside(0, 5, "mean(r)", r -> x.mean(r));
        says(7, "NOTHING;");
        finds("mean(0)", () -> x.mean(0), NOTHING);
        says(7, "NOUGHT.");
        x.row(0, 0);
        finds("mean(0)", () -> x.mean(0), NOUGHT);
    }

    private void text() {
        says(8, "A TEXT is there with n blanks: n.");
        due("text(3, 0)", x.text(3, 0), 0);
        finds("put(3, 0, 1)", () -> x.put(3, 0, 1), BEYOND);
        due("text(0, 60)", x.text(0, 60), 60);
        for (int i = 0; i < 60; i++) {
            due("put(0, " + i + ", 65)", x.put(0, i, 65), 1032);
        }
        due("text(0, 59) anew", x.text(0, 59), 59);
        for (int i = 0; i < 59; i++) {
            due("put(0, " + i + ", 66)", x.put(0, i, 66), 1032);
        }
        finds("put(0, 59, 1)", () -> x.put(0, 59, 1), BEYOND);
        due("text(0, 60) anew", x.text(0, 60), 60);
        due("put(0, 59, 1)", x.put(0, 59, 1), 1032);
        due("TEXTS", x.count(9), 2);

        says(8, "BAD: also n above 60;");
        badBeside(0, 3, "text(t, 1)", t -> x.text(t, 1));
        badBeside(0, 3, "text(t, -1)", t -> x.text(t, -1));
        for (int n : new int[] {61, 62, MOST}) {
            refuses("text(0, " + n + ")", () -> x.text(0, n), BAD);
        }

        says(8, "SIZE: below 0.");
        finds("text(0, -1)", () -> x.text(0, -1), SIZE);
        finds("text(0, least)", () -> x.text(0, LEAST), SIZE);
        finds("fault(0), as there is no TEXT yet", () -> x.fault(0), NOTHING);
    }

    private void put() {
        says(9, "Byte i of a TEXT is v, cut to a byte (-128 .. 127): what it was, and 1000 more.");
        x.text(0, 60);
        x.text(1, 1);
        int[] laid = {127, 128, 255, 256, -128, -129, -256, -257, LEAST, MOST, 0};
        int[] due = {127, -128, -1, 0, -128, 127, 0, -1, 0, -1, 0};
        int was = 32;
        for (int k = 0; k < laid.length; k++) {
            due("put(0, 59, " + laid[k] + ")", x.put(0, 59, laid[k]), 1000 + was);
            was = due[k];
        }
        due("put(0, 59, 1)", x.put(0, 59, 1), 1000);
        due("put(0, 0, 1)", x.put(0, 0, 1), 1032);
        due("put(1, 0, 1)", x.put(1, 0, 1), 1032);

        says(9, "BAD;");
        badBeside(0, 3, "put(t, 0, 1)", t -> x.put(t, 0, 1));
        badBeside(0, 3, "put(t, -1, 1)", t -> x.put(t, -1, 1));
        says(9, "NOTHING;");
        finds("put(0, 0, 1)", () -> x.put(0, 0, 1), NOTHING);
        finds("put(3, -1, 1)", () -> x.put(3, -1, 1), NOTHING);
        x.row(0, 1);
        finds("put(0, 0, 1), as a ROW is no TEXT", () -> x.put(0, 0, 1), NOTHING);
        says(9, "BEYOND.");
        x.text(0, 0);
        beyond(0, "put() of 0", i -> x.put(0, i, 1));
        x.text(0, 60);
        beyond(60, "put() of 60", i -> x.put(0, i, 1));
        x.text(0, 2);
        beyond(2, "put() of 2, once 60", i -> x.put(0, i, 1));
    }

    private void fault() {
        says(10, "A FAULT of a TEXT;");
        fault("", 0);
        fault("i1001m000z", 9);
        fault(" ".repeat(60), 60);
        text(3, " x");
        due("fault(3)", x.fault(3), 1);
        due("fault(0), still its own", x.fault(0), 60);

        says(10, "NONE: there is none.");
        text(0, "i1001m000");
        leaves("fault(0)", () -> x.fault(0), NONE);
        leaves("fault(0) again", () -> x.fault(0), NONE);
        due("MEN", x.count(0), 0);

        says(10, "BAD;");
        badBeside(0, 3, "fault(t)", t -> x.fault(t));
        says(10, "NOTHING.");
        finds("fault(0)", () -> x.fault(0), NOTHING);
        x.row(0, 1);
        finds("fault(0), as a ROW is no TEXT", () -> x.fault(0), NOTHING);
    }

    private void court() {
        says(11, "A COURT by a TEXT (anew: HEAT 8, no SALVE, nobody TRIED, no DEEDS; kept COURTS go): how many MEN.");
        text(0, "i1001 m109 m001 m002 m003 m004 m005");
        text(3, "i3996w198");
        due("court(0)", x.court(0), 6);
        x.heat(5);
        for (int i = 1; i < 6; i++) {
            x.salve(i);
        }
        x.trial(0);
        for (int k = 0; k <= 2; k++) {
            x.keep(k);
        }
        due("court(3)", x.court(3), 1);
        anew();
        asks("MAN 0 of now", x.man(0, 0), 1, 3);
        refuses("MAN 1 of before", () -> x.man(1, 0), BAD);
        due("court(0) once more", x.court(0), 6);
        anew();
        x.heat(3);
        x.keep(1);
        due("court(0), the same", x.court(0), 6);
        anew();

        says(11, "BAD;");
        badBeside(0, 3, "court(t)", t -> x.court(t));
        says(11, "NOTHING;");
        finds("court(0)", () -> x.court(0), NOTHING);
        finds("court(3)", () -> x.court(3), NOTHING);

        says(11, "STATE: a FAULT.");
        x.text(0, 0);
        refuses("court(0) of no byte", () -> x.court(0), STATE);
        court("i1001m109m000");
        x.heat(1);
        x.keep(2);
        text(0, "i3996w198p16!");
        refuses("court(0) of a FAULT at last", () -> x.court(0), STATE);
        due("MEN of before", x.count(0), 2);
        due("DEEDS of before", x.count(2), 1);
        asks("what it BURNS as before", x.man(0, 4), 1, 0);
        due("kept COURTS stay", x.on(2), 1);

        says(11, "(STATE behind NOTHING.)");
        text(0, "z");
        finds("court() of a TEXT missing", () -> x.court(1), NOTHING);
        refuses("court() of a FAULT", () -> x.court(0), STATE);
    }

    private void anew() {
        due("HEAT", x.count(1), 8);
        due("DEEDS", x.count(2), 0);
        due("who is TRIED", x.count(3), 0);
        due("TRIALS that told CLEAN", x.count(4), 0);
        due("told WRONGLY", x.count(5), 0);
        due("SALVE", x.count(6), 0);
        due("kept COURTS", x.count(10), 0);
        for (int k = 0; k <= 2; k++) {
            int place = k;
            finds("on(" + k + ")", () -> x.on(place), NOTHING);
        }
        for (int i = 0; i < x.count(0); i++) {
            asks("SALVE of " + i, x.man(i, 7), 1, 0);
            asks("what the TRIAL of " + i + " told", x.man(i, 8), 1, NONE);
        }
    }

    private void man() {
        says(12, "Of a MAN: 0 the KIND, 1 GUILT, 2 BELIEF, 3 how HARD, 4 what it BURNS by HEAT now, 5 whether he COMES "
                + "now (1, 0), 6 whether he would be CLEAN now (1, 0; COMING or not), 7 SALVE, 8 what his TRIAL told "
                + "(NONE: not TRIED), all told by asked(): 1.");
        court("i3006 n199 m139 w000");
        int[][] due = {{5, 1, 9, 4, 8, 0, 0, 0, NONE}, {0, 1, 3, 9, 15, 0, 0, 0, NONE}, {3, 0, 0, 0, 24, 1, 0, 0, NONE}};
        for (int i = 0; i < 3; i++) {
            for (int what = 0; what <= 8; what++) {
                asks("man(" + i + ", " + what + ")", x.man(i, what), 1, due[i][what]);
            }
        }
        heatTo(3);
        asks("whether one who does not COME would be CLEAN", x.man(1, 6), 1, 1);
        asks("whether he COMES", x.man(1, 5), 1, 0);
        x.trial(1);
        asks("what his TRIAL told", x.man(1, 8), 1, 2);
        asks("whether one TRIED would be CLEAN", x.man(1, 6), 1, 1);
        for (int k = 1; k <= 3; k++) {
            x.salve(2);
            asks("SALVE", x.man(2, 7), 1, k);
        }
        x.trial(2);
        asks("what her TRIAL told", x.man(2, 8), 1, 0);
        heatTo(0);
        asks("what it BURNS by 0", x.man(2, 4), 1, 0);
        heatTo(30);
        asks("what it BURNS by 30", x.man(2, 4), 1, 90);

        says(12, "BAD.");
        refuses("man(0, 0) without MEN", () -> x.man(0, 0), BAD);
        court("i1001m000");
        badBeside(0, 0, "man(i, 0) of one", i -> x.man(i, 0));
        badBeside(0, 8, "man(0, what)", what -> x.man(0, what));
        court(SIX);
        badBeside(0, 5, "man(i, 0) of six", i -> x.man(i, 0));
    }

    private void mark() {
        says(13, "What a MAN that IS of a KIND tells:");
        court("i1001 m000 p001 c002 w003 x004 n005");
        String[] kindsOf = {"", "14", "25", "3", "4", "5"};
        for (int kind = 1; kind <= 5; kind++) {
            for (int i = 0; i < 6; i++) {
                int man = i;
                int of = kind;
                if (kindsOf[kind].indexOf('0' + i) < 0) {
                    finds("mark(" + i + ", " + kind + ")", () -> x.mark(man, of), UNLIKE);
                } else {
                    due("mark(" + i + ", " + kind + ") tells", x.mark(i, kind) >= 0 ? 1 : 0, 1);
                }
            }
        }

        says(13, "a PLOUGHMAN (PROXY, too) how much more HEAT he could have and be CLEAN (30 at most in all; 0: none, or "
                + "he is not),");
        court("i1901 p005 x003 p004 p009 p059 x139");
        int[] by8 = {0, 0, 0, 4, 13, 6};
        for (int i = 0; i < 6; i++) {
            due("by HEAT 8 of " + i, x.mark(i, 1), by8[i]);
        }
        asks("the third is not CLEAN", x.man(2, 6), 1, 0);
        x.salve(0);
        x.salve(2);
        due("by SALVE", x.mark(0, 1), 2);
        due("by SALVE of one who was not CLEAN", x.mark(2, 1), 1);
        heatTo(0);
        due("by HEAT 0", x.mark(3, 1), 12);
        court("i1991 p059 x058");
        due("30 at most from 8", x.mark(0, 1), 22);
        due("30 at most, more would be CLEAN", x.mark(1, 1), 22);
        heatTo(0);
        due("30 at most from 0", x.mark(0, 1), 30);
        heatTo(29);
        due("30 at most from 29", x.mark(0, 1), 1);
        heatTo(30);
        due("30 at most from 30", x.mark(0, 1), 0);
        asks("who is CLEAN", x.man(0, 6), 1, 1);

        says(13, "a CLERK (NEPHEW, too) how much less HARD he is than others would be,");
        court("i1001 c000 c001 c002 n009 n000 n001");
        int[] less = {0, 1, 1, 5, 0, 1};
        for (int i = 0; i < 6; i++) {
            due("a CLERK's of " + i, x.mark(i, 2), less[i]);
        }

        says(13, "a WOMAN how much too great HEAT is for her to COME (0: it is not),");
        court("i1001 w000 w199");
        int[] heats = {0, 8, 10, 11, 20, 30};
        int[] tooGreat = {0, 0, 0, 1, 10, 20};
        for (int k = 0; k < heats.length; k++) {
            heatTo(heats[k]);
            due("by HEAT " + heats[k], x.mark(0, 3), tooGreat[k]);
            due("of one who never COMES, by HEAT " + heats[k], x.mark(1, 3), tooGreat[k]);
        }

        says(13, "a PROXY how many others do not COME now,");
        court("i1001 x199");
        due("of one alone", x.mark(0, 4), 0);
        court("i1001 m199 p199 x199 c199 w199 n199");
        due("of five", x.mark(2, 4), 5);
        x.trial(0);
        due("one of them TRIED", x.mark(2, 4), 5);
        court("i1001 x000 x100 w000 c000 m000 m130");
        due("by HEAT 8", x.mark(0, 4), 1);
        heatTo(11);
        due("by HEAT 11", x.mark(1, 4), 2);
        heatTo(21);
        due("by HEAT 21", x.mark(0, 4), 3);

        says(13, "a NEPHEW how much less he FEELS than others of his BELIEF.");
        court("i3301 n000 n050 n049");
        int[] by = {0, 1, 2, 3, 4, 9, 30};
        int[] unbelieving = {0, 1, 1, 2, 2, 5, 15};
        int[] believing = {0, 0, 0, 0, 1, 3, 14};
        for (int k = 0; k < by.length; k++) {
            heatTo(by[k]);
            due("BELIEF 0 by HEAT " + by[k], x.mark(0, 5), unbelieving[k]);
            due("BELIEF 5 by HEAT " + by[k], x.mark(1, 5), believing[k]);
            due("BELIEF 4 by HEAT " + by[k], x.mark(2, 5), unbelieving[k]);
        }

        says(13, "BAD: also KIND 0;");
        refuses("mark(0, 1) without MEN", () -> x.mark(0, 1), BAD);
        court("i1001 m000 p000");
        refuses("mark(0, 0)", () -> x.mark(0, 0), BAD);
        badBeside(1, 5, "mark(1, kind)", kind -> x.mark(1, kind));
        badBeside(0, 1, "mark(i, 1)", i -> x.mark(i, 1));
        badBeside(0, 1, "mark(i, 5)", i -> x.mark(i, 5));

        says(13, "UNLIKE.");
        court(SIX);
        finds("a MAN as a PLOUGHMAN", () -> x.mark(0, 1), UNLIKE);
        finds("a PLOUGHMAN as a PROXY", () -> x.mark(1, 4), UNLIKE);
        finds("a CLERK as a NEPHEW", () -> x.mark(2, 5), UNLIKE);
        finds("a PROXY as a NEPHEW", () -> x.mark(4, 5), UNLIKE);
    }
}
