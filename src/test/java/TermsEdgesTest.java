import java.util.List;

/** The boundary cases that the document's "Terms" name, a test a sentence. */
final class TermsEdgesTest extends Sentences {
    private static final String PLAIN = "i1001m000";

    private TermsEdgesTest() {
        super("TermsEdgesTest");
    }

    public static void main(String[] args) {
        TermsEdgesTest test = new TermsEdgesTest();
        test.calls();
        test.answers();
        test.refused();
        test.findings();
        test.rowsAndTexts();
        test.courts();
        test.faults();
        test.hardness();
        test.burning();
        test.coming();
        test.trials();
        test.deeds();
        test.aside();
        test.allTested("Terms");
        test.check.end();
    }

    private void terms(String sentence) {
        says("Terms", sentence);
    }

    // ---- calls, answers

    private void calls() {
        says("What it is", "An object is used for at most 512 calls after it has been made;");
        x.row(0, 1);
        for (int call = 1; call < 510; call++) {
            x.lay(0, 0, call);
        }
        due("the 511th call", x.at(0, 0), 1);
        due("the 512th call", x.asked(), 509);
    }

    private void answers() {
        terms("ANSWERS. Refused is, the first of these that fits, in this order: BAD -1 (a number that is none, or "
                + "not as told), FULL -2, STATE -4 (not now), SPENT -6 (more than told), FINDING -3 (finding() tells "
                + "which), unless a call says so otherwise.");
        due("BAD", ThirdDay.BAD, BAD);
        due("FULL", ThirdDay.FULL, FULL);
        due("STATE", ThirdDay.STATE, STATE);
        due("SPENT", ThirdDay.SPENT, SPENT);
        due("FINDING", ThirdDay.FINDING, FINDING);
        refuses("BAD ahead of STATE: heat(0)", () -> x.heat(0), BAD);
        refuses("BAD ahead of STATE: order(6)", () -> x.order(6), BAD);
        refuses("BAD ahead of FINDING: row(6, -1)", () -> x.row(6, -1), BAD);
        refuses("BAD ahead of FINDING: put(4, -1, 0)", () -> x.put(4, -1, 0), BAD);
        refuses("STATE ahead of FINDING: fits(0)", () -> x.fits(0), STATE);
        court(PLAIN);
        fill(MOST_DEEDS);
        refuses("BAD ahead of FULL: heat(6)", () -> x.heat(6), BAD);
        refuses("BAD ahead of FULL: salve(1)", () -> x.salve(1), BAD);
        refuses("BAD ahead of FULL: lots(1, 0)", () -> x.lots(1, 0), BAD);

        terms("NONE -9.");
        due("NONE", ThirdDay.NONE, NONE);
        text(0, PLAIN);
        leaves("fault(0)", () -> x.fault(0), NONE);
        x.court(0);
        leaves("least()", () -> x.least(), NONE);
        row(0, 0, 2);
        leaves("ask(0)", () -> x.ask(0), NONE);
        asks("man(0, 8)", x.man(0, 8), 1, NONE);
    }

    private void refused() {
        terms("What is refused changes nothing but finding(), findings().");
        refusedWithoutMen();
        court(SIX);
        row(0, 0, 1, 2, 3, 4, 5);
        row(1);
        row(2, 1);
        row(3, 0, 3);
        row(4, 31, 0, 9, 9, 9, 9, 9);
        x.text(1, 3);
        for (int k = 0; k < 3; k++) {
            x.salve(1);
        }
        x.trial(0);
        x.keep(0);
        fill(36);
        x.keep(1);
        x.tells(0);
        x.on(0);
        long digestOfFew = x.digest();
        x.on(1);
        long digestOfAll = x.digest();
        x.man(0, 4);
        refusedRows();
        refusedTexts();
        refusedDeeds();
        refusedQuestions();
        due("digest() behind all of them", x.digest(), digestOfAll);
        x.on(0);
        due("digest() of the first kept COURT", x.digest(), digestOfFew);
        x.on(1);
        due("digest() of the second kept COURT", x.digest(), digestOfAll);
    }

    private void refusedWithoutMen() {
        refuses("man(0, 0)", () -> x.man(0, 0), BAD);
        refuses("mark(0, 1)", () -> x.mark(0, 1), BAD);
        refuses("heat(1)", () -> x.heat(1), STATE);
        refuses("salve(0)", () -> x.salve(0), BAD);
        refuses("trial(0)", () -> x.trial(0), BAD);
        refuses("undo(1)", () -> x.undo(1), BAD);
        refuses("keep(0)", () -> x.keep(0), STATE);
        finds("on(0)", () -> x.on(0), NOTHING);
        refuses("comes()", () -> x.comes(), STATE);
        refuses("wrong(0)", () -> x.wrong(0), STATE);
        refuses("best()", () -> x.best(), STATE);
        refuses("heats(0, 0)", () -> x.heats(0, 0), BAD);
        refuses("tells(0)", () -> x.tells(0), STATE);
        refuses("order(0)", () -> x.order(0), STATE);
        refuses("tried(0)", () -> x.tried(0), STATE);
        refuses("least()", () -> x.least(), STATE);
        refuses("fits(0)", () -> x.fits(0), STATE);
        refuses("ask(0)", () -> x.ask(0), STATE);
        refuses("hands(0, 0)", () -> x.hands(0, 0), BAD);
        refuses("kinds(0, 0)", () -> x.kinds(0, 0), BAD);
        refuses("duel(0)", () -> x.duel(0), STATE);
        refuses("odds(0)", () -> x.odds(0), STATE);
        refuses("mid(0)", () -> x.mid(0), STATE);
        refuses("lots(1, 1)", () -> x.lots(1, 1), STATE);
    }

    private void refusedRows() {
        refuses("row(6, 1)", () -> x.row(6, 1), BAD);
        refuses("row(0, 41)", () -> x.row(0, 41), BAD);
        finds("row(0, -1)", () -> x.row(0, -1), SIZE);
        refuses("lay(-1, 0, 7)", () -> x.lay(-1, 0, 7), BAD);
        finds("lay(5, 0, 7)", () -> x.lay(5, 0, 7), NOTHING);
        finds("lay(0, 6, 7)", () -> x.lay(0, 6, 7), BEYOND);
        refuses("at(6, 0)", () -> x.at(6, 0), BAD);
        finds("at(5, 0)", () -> x.at(5, 0), NOTHING);
        finds("at(1, 0)", () -> x.at(1, 0), BEYOND);
        refuses("tear(6)", () -> x.tear(6), BAD);
        finds("tear(5)", () -> x.tear(5), NOTHING);
        refuses("copy(0, 0, 6, 0, 1)", () -> x.copy(0, 0, 6, 0, 1), BAD);
        finds("copy(0, 0, 2, 0, -1)", () -> x.copy(0, 0, 2, 0, -1), SIZE);
        finds("copy(0, 0, 5, 0, 1)", () -> x.copy(0, 0, 5, 0, 1), NOTHING);
        finds("copy(0, 0, 2, 0, 2)", () -> x.copy(0, 0, 2, 0, 2), BEYOND);
        finds("copy(2, 0, 0, 0, 2)", () -> x.copy(2, 0, 0, 0, 2), BEYOND);
        refuses("mean(6)", () -> x.mean(6), BAD);
        finds("mean(5)", () -> x.mean(5), NOTHING);
        finds("mean(1)", () -> x.mean(1), NOUGHT);
    }

    private void refusedTexts() {
        refuses("text(4, 1)", () -> x.text(4, 1), BAD);
        refuses("text(1, 61)", () -> x.text(1, 61), BAD);
        finds("text(1, -1)", () -> x.text(1, -1), SIZE);
        refuses("put(4, 0, 65)", () -> x.put(4, 0, 65), BAD);
        finds("put(0, 0, 65)", () -> x.put(0, 0, 65), NOTHING);
        finds("put(1, 3, 65)", () -> x.put(1, 3, 65), BEYOND);
        refuses("fault(4)", () -> x.fault(4), BAD);
        finds("fault(0)", () -> x.fault(0), NOTHING);
        refuses("court(4)", () -> x.court(4), BAD);
        finds("court(0)", () -> x.court(0), NOTHING);
        refuses("court(1)", () -> x.court(1), STATE);
        refuses("man(6, 0)", () -> x.man(6, 0), BAD);
        refuses("man(0, 9)", () -> x.man(0, 9), BAD);
        refuses("mark(6, 1)", () -> x.mark(6, 1), BAD);
        refuses("mark(0, 0)", () -> x.mark(0, 0), BAD);
        finds("mark(0, 1)", () -> x.mark(0, 1), UNLIKE);
    }

    private void refusedDeeds() {
        refuses("heat(0)", () -> x.heat(0), BAD);
        refuses("heat(1)", () -> x.heat(1), FULL);
        refuses("salve(6)", () -> x.salve(6), BAD);
        refuses("salve(1)", () -> x.salve(1), STATE);
        refuses("salve(0)", () -> x.salve(0), STATE);
        refuses("salve(2)", () -> x.salve(2), FULL);
        refuses("trial(6)", () -> x.trial(6), BAD);
        refuses("trial(0)", () -> x.trial(0), STATE);
        refuses("trial(2)", () -> x.trial(2), FULL);
        refuses("undo(41)", () -> x.undo(41), BAD);
        refuses("undo(-1)", () -> x.undo(-1), BAD);
        refuses("keep(3)", () -> x.keep(3), BAD);
        refuses("on(3)", () -> x.on(3), BAD);
        finds("on(2)", () -> x.on(2), NOTHING);
        refuses("lots(0, 1)", () -> x.lots(0, 1), BAD);
        refuses("lots(1, 0)", () -> x.lots(1, 0), BAD);
        refuses("lots(1, 1)", () -> x.lots(1, 1), FULL);
    }

    private void refusedQuestions() {
        refuses("wrong(31)", () -> x.wrong(31), BAD);
        refuses("heats(6, 0)", () -> x.heats(6, 0), BAD);
        refuses("heats(0, 3)", () -> x.heats(0, 3), BAD);
        refuses("tells(31)", () -> x.tells(31), BAD);
        refuses("order(6)", () -> x.order(6), BAD);
        refuses("tried(6)", () -> x.tried(6), BAD);
        finds("tried(5)", () -> x.tried(5), NOTHING);
        finds("tried(4)", () -> x.tried(4), SIZE);
        finds("tried(0)", () -> x.tried(0), UNLIKE);
        refuses("fits(6)", () -> x.fits(6), BAD);
        finds("fits(5)", () -> x.fits(5), NOTHING);
        finds("fits(2)", () -> x.fits(2), SIZE);
        finds("fits(3)", () -> x.fits(3), UNLIKE);
        refuses("ask(6)", () -> x.ask(6), BAD);
        finds("ask(5)", () -> x.ask(5), NOTHING);
        finds("ask(2)", () -> x.ask(2), SIZE);
        finds("ask(3)", () -> x.ask(3), UNLIKE);
        refuses("hands(6, 0)", () -> x.hands(6, 0), BAD);
        refuses("hands(0, 6)", () -> x.hands(0, 6), BAD);
        finds("hands(0, 5)", () -> x.hands(0, 5), NOTHING);
        finds("hands(0, 4)", () -> x.hands(0, 4), SIZE);
        finds("hands(0, 3)", () -> x.hands(0, 3), UNLIKE);
        refuses("kinds(6, 0)", () -> x.kinds(6, 0), BAD);
        refuses("kinds(0, 6)", () -> x.kinds(0, 6), BAD);
        finds("kinds(0, 5)", () -> x.kinds(0, 5), NOTHING);
        finds("kinds(0, 4)", () -> x.kinds(0, 4), SIZE);
        finds("kinds(0, 3)", () -> x.kinds(0, 3), UNLIKE);
        refuses("duel(7)", () -> x.duel(7), BAD);
        refuses("odds(13)", () -> x.odds(13), BAD);
        refuses("mid(13)", () -> x.mid(13), BAD);
        refuses("count(11)", () -> x.count(11), BAD);
        refuses("findings(6)", () -> x.findings(6), BAD);
    }

    private void findings() {
        terms("FINDINGS: 1 NOTHING (a ROW, a TEXT, a kept COURT that is missing),");
        finds("at(0, 0)", () -> x.at(0, 0), 1);
        finds("fault(0)", () -> x.fault(0), 1);
        finds("on(0)", () -> x.on(0), 1);

        terms("2 BEYOND (a place that there is not),");
        x.row(0, 1);
        x.text(0, 1);
        finds("at(0, 1)", () -> x.at(0, 1), 2);
        finds("put(0, 1, 1)", () -> x.put(0, 1, 1), 2);

        terms("3 UNLIKE (a MAN of another KIND; a number that is none; one who was tried),");
        court("i1001 m000 p000");
        finds("mark(0, 1)", () -> x.mark(0, 1), 3);
        row(0, 2);
        finds("tried(0) of 2", () -> x.tried(0), 3);
        x.trial(0);
        row(0, 0);
        finds("tried(0) of one TRIED", () -> x.tried(0), 3);

        terms("4 NOUGHT (shared among none),");
        x.row(0, 0);
        finds("mean(0)", () -> x.mean(0), 4);

        terms("5 SIZE (fewer than none; not as many as due).");
        finds("row(0, -1)", () -> x.row(0, -1), 5);
        court(PLAIN);
        x.row(0, 3);
        finds("fits(0) of 3 ints", () -> x.fits(0), 5);

        terms("Chances, means are told by upper(), lower(), in lowest terms, the lower number above 0 (0 by 1).");
        due("upper() at first", x.upper(), 0);
        due("lower() at first", x.lower(), 1);
        court("i1031 m005");
        fraction("odds(6), 6 by 12", x.odds(6), 1, 2);
        fraction("odds(12), 0 by 12", x.odds(12), 0, 1);
        fraction("mid(4), 8 by 12", x.mid(4), 2, 3);
        fraction("mid(12), 0 by 12", x.mid(12), 0, 1);
        fraction("tells(30) of nobody", x.tells(30), 0, 1);
        fraction("tells(8) of none GUILTY by one", x.tells(8), 0, 1);

        terms("Sets (of MEN, KINDS, numbers 0 .. 9, HEATS 0 .. 30) are told by bits.");
        court("i1996 x059 x059 x059 x059 x059 x059");
        row(0);
        asks("comes(): all MEN", x.comes(), 63, 63);
        due("kinds(): all", x.kinds(0, 0), 63);
        due("hands(): all", x.hands(0, 0), 1023);
        due("heats(): all, bit 30 too", x.heats(0, 1), ALL_HEATS);
        due("heats(): none", x.heats(0, 0), 0);
        x.trial(5);
        due("count(3): the sixth MAN", x.count(3), 32);
    }

    // ---- rows, texts, courts

    private void rowsAndTexts() {
        terms("1 ROWS 0 .. 5 are rows of 0 to 40 ints, TEXTS 0 .. 3 rows of 0 to 60 bytes, or missing (at first).");
        for (int r = 0; r <= 5; r++) {
            int row = r;
            finds("at() of a ROW at first", () -> x.at(row, 0), NOTHING);
            due("a ROW of 40", x.row(r, 40), 40);
            asks("its last place", x.at(r, 39), 1, 0);
            beyond(40, "at() of 40", i -> x.at(row, i));
            due("a ROW of 0", x.row(r, 0), 0);
            beyond(0, "at() of 0", i -> x.at(row, i));
        }
        badBeside(0, 5, "row()", r -> x.row(r, 1));
        for (int t = 0; t <= 3; t++) {
            int text = t;
            finds("put() to a TEXT at first", () -> x.put(text, 0, 65), NOTHING);
            due("a TEXT of 60", x.text(t, 60), 60);
            due("its last byte", x.put(t, 59, 65), 1032);
            beyond(60, "put() to 60", i -> x.put(text, i, 65));
            due("a TEXT of 0", x.text(t, 0), 0);
            beyond(0, "put() to 0", i -> x.put(text, i, 65));
        }
        badBeside(0, 3, "text()", t -> x.text(t, 1));
    }

    private void wellAlone(String text, int places, int least, int most) {
        for (int b = -128; b <= 127; b++) {
            begin("'" + text + "' with byte " + b + " at " + places);
            text(0, text);
            x.put(0, places, b);
            due("fault(0)", x.fault(0), b >= least && b <= most ? NONE : places);
        }
    }

    private void courts() {
        terms("A COURT (without MEN at first) is a TEXT: blanks (32) ahead, between, behind as many as wanted, none "
                + "within items.");
        due("MEN at first", x.count(0), 0);
        fault("i1001m000p000", NONE);
        fault(" ".repeat(51) + PLAIN, NONE);
        fault("i1001" + " ".repeat(51) + "m000", NONE);
        fault("i1001m000" + " ".repeat(47) + "m000", NONE);
        fault(PLAIN + " ".repeat(51), NONE);
        fault("    i1001     m000 p000  c000   w000    x000     n000      ".substring(0, 59), NONE);
        due("MEN of all KINDS", x.count(0), 6);
        for (int place : new int[] {1, 2, 3, 4, 6, 7, 8}) {
            fault(PLAIN.substring(0, place) + " " + PLAIN.substring(place), place);
        }
        for (char other : new char[] {0, 9, 10, 13, 31, 33, 160}) {
            fault(other + PLAIN, 0);
            fault(PLAIN + other, 9);
            fault("i1001" + other + "m000", 5);
        }

        terms("The first item is i (105), POUNDS (1 .. 3), MERCY (0 .. 9), what HEALS (0 .. 9), the KING (1 .. 6), "
                + "one figure each.");
        wellAlone("i1001m000", 1, '1', '3');
        wellAlone("i1001m000", 2, '0', '9');
        wellAlone("i1001m000", 3, '0', '9');
        wellAlone("i1001m000", 4, '1', '6');
        for (int b = -128; b <= 127; b++) {
            begin("a first byte " + b);
            text(0, PLAIN);
            x.put(0, 0, b);
            due("fault(0)", x.fault(0), b == 105 ? NONE : b == 32 ? 1 : 0);
        }
        fault("i10011m000", 5);
        fault("m000i1001", 0);

        terms("Then MEN (1 to 6; 0, 1, .. as they come): a letter, GUILT (0, 1), BELIEF (0 .. 9), the HAND (0 .. 9), "
                + "one figure each.");
        wellAlone("i1001m000", 6, '0', '1');
        wellAlone("i1001m000", 7, '0', '9');
        wellAlone("i1001m000", 8, '0', '9');
        fault("i1001m0000", 9);
        fault("i1001m001p102c093w114x075n196", NONE);
        int[] guilt = {0, 1, 0, 1, 0, 1};
        int[] belief = {0, 0, 9, 1, 7, 9};
        int[] hard = {1, 5, 1, 4, 10, 3};
        for (int i = 0; i < 6; i++) {
            asks("KIND of " + i, x.man(i, 0), 1, i);
            asks("GUILT of " + i, x.man(i, 1), 1, guilt[i]);
            asks("BELIEF of " + i, x.man(i, 2), 1, belief[i]);
            asks("how HARD " + i + " is", x.man(i, 3), 1, hard[i]);
        }
        fault("i1001m001", NONE);
        due("one MAN", x.count(0), 1);

        terms("KINDS of MEN and letters: 0 MAN (m, 109), 1 PLOUGHMAN (p, 112; a MAN), 2 CLERK (c, 99; a MAN), 3 WOMAN "
                + "(w, 119; a MAN), 4 PROXY (x, 120; a PLOUGHMAN), 5 NEPHEW (n, 110; a CLERK).");
        List<Integer> letters = List.of(109, 112, 99, 119, 120, 110);
        for (int b = -128; b <= 127; b++) {
            begin("a letter " + b);
            text(0, PLAIN);
            x.put(0, 5, b);
            due("fault(0)", x.fault(0), letters.contains(b) ? NONE : b == 32 ? 6 : 5);
            if (letters.contains(b)) {
                x.court(0);
                asks("the KIND", x.man(0, 0), 1, letters.indexOf(b));
            }
        }
    }

    private void faults() {
        terms("A FAULT is the first place at which it can't go on so (a letter, a figure that is none such,");
        fault("a1001m000", 0);
        fault("I1001m000", 0);
        fault("i0001m000", 1);
        fault("i1001 k000", 6);
        fault("i1001 m2a0", 7);
        fault("i1001 m0a!", 8);
        fault("i1001m000!m000", 9);

        terms("a seventh MAN: its place;");
        fault("i1001m000m000m000m000m000m000m000", 29);
        fault("i1001m000m000m000m000m000m000   m000", 32);
        fault("i1001m000m000m000m000m000m000 m", 30);
        fault("i1001m000m000m000m000m000m000 ", NONE);

        terms("the TEXT's size, if its end comes too early,");
        String whole = "  i1001  m000";
        for (int size = 0; size < whole.length(); size++) {
            fault(whole.substring(0, size), size);
        }
        fault(whole, NONE);
        fault(whole + "p00", 16);
        fault(" ".repeat(54) + "i1001m", 60);

        terms("or there is no MAN,");
        fault("i1001", 5);
        fault("i1001    ", 9);

        terms("or there are blanks alone).");
        fault("", 0);
        fault(" ", 1);
        fault(" ".repeat(60), 60);
    }

    // ---- what the iron does

    private void hardOf(char letter, int... due) {
        for (int hand = 0; hand <= 9; hand++) {
            begin("letter " + letter + ", HAND " + hand);
            court("i1001" + letter + "00" + hand);
            asks("how HARD", x.man(0, 3), 1, due[hand]);
        }
    }

    private void hardness() {
        terms("HARD is the HAND as told;");
        hardOf('m', 0, 1, 2, 3, 4, 5, 6, 7, 8, 9);
        hardOf('w', 0, 1, 2, 3, 4, 5, 6, 7, 8, 9);
        terms("of a PLOUGHMAN (PROXY, too) 3 more;");
        hardOf('p', 3, 4, 5, 6, 7, 8, 9, 10, 11, 12);
        terms("of a PROXY 2 more than of a PLOUGHMAN;");
        hardOf('x', 5, 6, 7, 8, 9, 10, 11, 12, 13, 14);
        terms("of a CLERK (NEPHEW, too) half (cut).");
        hardOf('c', 0, 0, 1, 1, 2, 2, 3, 3, 4, 4);
        hardOf('n', 0, 0, 1, 1, 2, 2, 3, 3, 4, 4);
    }

    private void burns(int heat, int... due) {
        heatTo(heat);
        for (int i = 0; i < due.length; i++) {
            asks("what it BURNS " + i + " by " + heat, x.man(i, 4), 1, due[i]);
        }
    }

    private void burning() {
        terms("One FEELS HEAT;");
        court("i1901 m000 m040 w000 c140");
        burns(8, 8, 8, 8, 8);
        burns(0, 0, 0, 0, 0);
        burns(30, 30, 30, 30, 30);

        terms("MERCY less (0 at least), if BELIEF is 5 or more;");
        court("i1301 m040 m050 m090 n050");
        burns(8, 8, 5, 5, 2);
        burns(4, 4, 1, 1, 0);
        burns(3, 3, 0, 0, 0);
        burns(2, 2, 0, 0, 0);
        due("half of 0 is no less than 0", x.mark(3, 5), 0);
        burns(0, 0, 0, 0, 0);
        due("half of 0 is no less than 0", x.mark(3, 5), 0);

        terms("a NEPHEW half of that (cut).");
        court("i1301 n000 n050");
        burns(8, 4, 2);
        burns(9, 4, 3);
        burns(10, 5, 3);
        burns(1, 0, 0);
        burns(30, 15, 13);

        terms("It BURNS POUNDS times what one FEELS, less HARD (0 at least).");
        court("i3401 m009 p009 n057 m001");
        burns(8, 15, 12, 3, 23);
        burns(4, 3, 0, 0, 11);
        burns(3, 0, 0, 0, 8);
        burns(2, 0, 0, 0, 5);
        burns(0, 0, 0, 0, 0);
        burns(30, 81, 78, 36, 89);

        terms("One is CLEAN, if it BURNS no more than HEALS and twice the SALVE one has together, else FOUL.");
        court("i1036 m005 m004 m003 m002 m009");
        int[][] clean = {{1, 0, 0, 0, 1}, {1, 1, 1, 0, 1}, {1, 1, 1, 1, 1}};
        for (int salve = 0; salve <= 2; salve++) {
            for (int i = 0; i < 5; i++) {
                asks("whether " + i + " is CLEAN by SALVE " + salve, x.man(i, 6), 1, clean[salve][i]);
                x.salve(i);
            }
        }
        x.undo(0);
        asks("trial(0): it BURNS as much", x.trial(0), 1, 0);
        asks("trial(1): it BURNS one more", x.trial(1), 0, 1);
        x.salve(2);
        asks("trial(2): as much by SALVE", x.trial(2), 1, 0);
        x.salve(3);
        asks("trial(3): one more by SALVE", x.trial(3), 0, 1);
    }

    private void come(int heat, int... due) {
        heatTo(heat);
        for (int i = 0; i < due.length; i++) {
            asks("whether " + i + " COMES by " + heat, x.man(i, 5), 1, due[i]);
        }
    }

    private void coming() {
        terms("One COMES to it, if one is not GUILTY, or BELIEF is less than 3;");
        court("i1001 m090 m120 m130 p120 p130 p030");
        come(8, 1, 1, 0, 1, 0, 1);
        come(0, 1, 1, 0, 1, 0, 1);
        come(30, 1, 1, 0, 1, 0, 1);

        terms("a CLERK (NEPHEW, too) besides only if HEAT is 20 or less;");
        court("i1001 c000 n000 c120 n120 c130 n130");
        come(0, 1, 1, 1, 1, 0, 0);
        come(20, 1, 1, 1, 1, 0, 0);
        come(21, 0, 0, 0, 0, 0, 0);
        come(30, 0, 0, 0, 0, 0, 0);

        terms("a WOMAN besides only if HEAT is 10 or less;");
        court("i1001 w000 w120 w130 w090");
        come(0, 1, 1, 0, 1);
        come(10, 1, 1, 0, 1);
        come(11, 0, 0, 0, 0);
        come(30, 0, 0, 0, 0);

        terms("a PROXY always.");
        court("i1001 x199 x000 x130");
        come(0, 1, 1, 1);
        come(11, 1, 1, 1);
        come(21, 1, 1, 1);
        come(30, 1, 1, 1);
    }

    // ---- trials, deeds

    private void trials() {
        terms("2 HEAT (0 .. 30) is 8 at first, nobody has SALVE, nobody is TRIED.");
        due("HEAT without MEN", x.count(1), 8);
        court(SIX);
        due("HEAT", x.count(1), 8);
        due("SALVE of all", x.count(6), 0);
        due("who is TRIED", x.count(3), 0);
        for (int i = 0; i < 6; i++) {
            asks("SALVE of " + i, x.man(i, 7), 1, 0);
            asks("what his TRIAL told", x.man(i, 8), 1, NONE);
        }
        heatTo(30);
        due("HEAT up to 30", x.heat(1), 30);
        heatTo(0);
        due("HEAT down to 0", x.heat(-1), 0);

        terms("A TRIAL of one not yet TRIED tells 1 CLEAN, 0 FOUL, 2 one does not COME.");
        court("i1006 m008 m007 m139 m130");
        asks("CLEAN", x.trial(0), 1, 0);
        asks("FOUL", x.trial(1), 0, 1);
        asks("who would be CLEAN does not COME", x.trial(2), 2, 0);
        asks("who would be FOUL does not COME", x.trial(3), 2, 0);
        for (int i = 0; i < 4; i++) {
            int man = i;
            refuses("one who is TRIED", () -> x.trial(man), STATE);
        }

        anger();

        terms("One is told WRONGLY, if one is GUILTY and CLEAN (and COMES), or not GUILTY and FOUL, or does not COME "
                + "and is not GUILTY.");
        court("i1006 m109 m139 m100 m000 m009 w005");
        asks("GUILTY and CLEAN", x.trial(0), 1, 1);
        asks("GUILTY, would be CLEAN, does not COME", x.trial(1), 2, 0);
        asks("GUILTY and FOUL", x.trial(2), 0, 0);
        asks("not GUILTY and FOUL", x.trial(3), 0, 1);
        asks("not GUILTY and CLEAN", x.trial(4), 1, 0);
        heatTo(11);
        asks("does not COME and is not GUILTY", x.trial(5), 2, 1);
        due("told WRONGLY", x.count(5), 3);
    }

    private void anger() {
        terms("Behind a TRIAL that told CLEAN HEAT is 5 more (30 at most), if as many as the KING, or more, have told "
                + "so by then.");
        court("i1992 m009 m009 m009 m199 m059 m000");
        x.trial(0);
        due("HEAT behind fewer than the KING", x.count(1), 8);
        x.trial(1);
        due("HEAT behind as many as the KING", x.count(1), 13);
        x.trial(2);
        due("HEAT behind more than the KING", x.count(1), 18);
        due("one does not COME", x.trial(3), 2);
        due("HEAT behind it", x.count(1), 18);
        due("FOUL", x.trial(5), 0);
        due("HEAT behind it", x.count(1), 18);
        x.undo(1);
        due("CLEAN, one undone", x.trial(4), 1);
        due("HEAT by those who told so by then", x.count(1), 13);
        court("i1996 m009 m009 m009 m009 m009 m009");
        for (int i = 0; i < 5; i++) {
            x.trial(i);
        }
        due("HEAT behind five", x.count(1), 8);
        x.trial(5);
        due("HEAT behind six", x.count(1), 13);
        court("i1991 x059 x059 x059");
        heatTo(25);
        x.trial(0);
        due("HEAT from 25", x.count(1), 30);
        due("CLEAN by 30", x.trial(1), 1);
        due("HEAT from 30", x.count(1), 30);
        x.undo(4);
        x.heat(1);
        x.trial(0);
        due("HEAT from 26", x.count(1), 30);
    }

    private void deeds() {
        terms("What is done: HEAT more or less, SALVE for one (3 at most), a TRIAL.");
        court(SIX);
        x.heat(1);
        due("DEEDS behind heat()", x.count(2), 1);
        x.salve(0);
        due("DEEDS behind salve()", x.count(2), 2);
        x.trial(1);
        due("DEEDS behind trial()", x.count(2), 3);
        x.salve(0);
        due("SALVE, the third", x.salve(0), 3);
        refuses("SALVE, the fourth", () -> x.salve(0), STATE);
        x.lots(7, 5);
        due("DEEDS behind lots()", x.count(2), 12);

        terms("These are DEEDS (40 at most).");
        court(SIX);
        x.salve(0);
        fill(38);
        due("a DEED, the 40th", x.trial(0) >= 0 ? 1 : 0, 1);
        due("DEEDS", x.count(2), 40);
        refuses("heat(1), the 41st", () -> x.heat(1), FULL);
        refuses("salve(1), the 41st", () -> x.salve(1), FULL);
        refuses("trial(1), the 41st", () -> x.trial(1), FULL);
        refuses("lots(1, 1), the 41st", () -> x.lots(1, 1), FULL);
        x.undo(39);
        due("salve(1), the 40th once more", x.salve(1), 1);
        due("court() lets all go", x.court(3), 6);
        due("heat(1), the first", x.heat(1), 9);
    }

    private void aside() {
        terms("(aside, of those not TRIED)");
        court("i1091 x009 x109 m009");
        x.trial(0);
        x.trial(1);
        long digest = x.digest();
        asks("comes() of one left", x.comes(), 4, 4);
        asks("wrong(30) of one left", x.wrong(30), 1, 0);
        asks("best() of one left", x.best(), 0, 0);
        fraction("tells(0) of one left", x.tells(0), 0, 1);
        due("heats() of one TRIED", x.heats(1, 2), 0);
        x.trial(2);
        asks("comes() of none left", x.comes(), 0, 0);
        asks("wrong(30) of none left", x.wrong(30), 0, 0);
        asks("best() of none left", x.best(), 0, 0);
        fraction("tells(0) of none left", x.tells(0), 0, 1);
        x.undo(2);
        due("digest(): all was aside", x.digest(), digest);

        terms("(a ROW of pairs: a MAN, what his TRIAL told, 0, 1, 2; SALVE, all else as it is, HEAT alike for all)");
        court("i1003 m004 m006 m139");
        row(0, 0, 1, 1, 1);
        asks("fits(0): both CLEAN", x.fits(0), 31, 5);
        row(0, 0, 0, 1, 1, 2, 2);
        asks("fits(0): one FOUL, one CLEAN, one does not COME", x.fits(0), 127 - 31, 2);
        row(0, 0, 1, 1, 0);
        asks("fits(0): not by HEAT alike for all", x.fits(0), 0, 0);
        x.salve(0);
        x.salve(0);
        asks("fits(0): by SALVE as it is", x.fits(0), 511 - 127, 2);
    }
}
