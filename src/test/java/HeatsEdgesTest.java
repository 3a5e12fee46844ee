import java.util.function.IntBinaryOperator;
import java.util.function.IntUnaryOperator;

/** The boundary cases that promises 20 to 31 name (heats, orders, how hot it was), a test a sentence. */
final class HeatsEdgesTest extends Sentences {
    private HeatsEdgesTest() {
        super("HeatsEdgesTest");
    }

    public static void main(String[] args) {
        HeatsEdgesTest test = new HeatsEdgesTest();
        test.comes();
        test.wrong();
        test.best();
        test.heats();
        test.tells();
        test.order();
        test.tried();
        test.least();
        test.fits();
        test.ask();
        test.hands();
        test.kinds();
        test.allTested(20, 31);
        test.check.end();
    }

    private void tryAll() {
        for (int i = 0; i < x.count(0); i++) {
            x.trial(i);
        }
    }

    // ---- heats

    private void comes() {
        int[] heats = {0, 8, 9, 10, 11, 20, 21, 30};
        int[] coming = {59, 59, 59, 59, 43, 43, 11, 11};
        int[] clean = {59, 17, 17, 0, 0, 0, 0, 0};
        says(20, "MEN (bits) who COME now;");
        court("i1006 m009 m000 m139 x000 w009 c009");
        for (int k = 0; k < heats.length; k++) {
            heatTo(heats[k]);
            due("comes() by " + heats[k], x.comes(), coming[k]);
        }
        tryAll();
        due("comes() of all TRIED", x.comes(), 0);
        court("i1001 m199");
        due("comes(), if nobody COMES", x.comes(), 0);
        court("i1001 x199 x199 x199 x199 x199 x199");
        due("comes() of six", x.comes(), 63);

        says(20, "those of them who would be CLEAN by asked() (bits).");
        court("i1006 m009 m000 m139 x000 w009 c009");
        for (int k = 0; k < heats.length; k++) {
            heatTo(heats[k]);
            asks("comes() by " + heats[k], x.comes(), coming[k], clean[k]);
        }
        tryAll();
        asks("comes() of all TRIED", x.comes(), 0, 0);
        court("i1001 m139");
        asks("comes(), if one would be CLEAN who does not COME", x.comes(), 0, 0);

        says(20, "STATE: no MEN.");
        refuses("comes()", () -> x.comes(), STATE);
    }

    private void wrong() {
        int[] heats = {0, 9, 10, 14, 15, 30};
        int[] wrong = {3, 2, 2, 2, 1, 1};
        int[] guilty = {3, 2, 1, 1, 0, 0};
        says(21, "How many would be told WRONGLY by a HEAT (0 .. 30) that stays;");
        court("i1001 m109 m009 x109 w105");
        for (int k = 0; k < heats.length; k++) {
            due("wrong(" + heats[k] + ")", x.wrong(heats[k]), wrong[k]);
        }
        due("HEAT stays", x.count(1), 8);
        court("i1001 m000 m000 m000 m000 m000 m000");
        due("wrong(0) of six", x.wrong(0), 0);
        due("wrong(1) of six", x.wrong(1), 6);
        tryAll();
        due("wrong(1) of all TRIED", x.wrong(1), 0);

        says(21, "how many GUILTY ones of these by asked().");
        court("i1001 m109 m009 x109 w105");
        for (int k = 0; k < heats.length; k++) {
            asks("wrong(" + heats[k] + ")", x.wrong(heats[k]), wrong[k], guilty[k]);
        }
        court("i1001 m109 m109 m109 m109 m109 m109");
        asks("wrong(0) of six", x.wrong(0), 6, 6);
        tryAll();
        asks("wrong(0) of all TRIED", x.wrong(0), 0, 0);

        says(21, "BAD;");
        badBeside(0, 30, "wrong() without MEN", h -> x.wrong(h));
        court(SIX);
        badBeside(0, 30, "wrong()", h -> x.wrong(h));
        says(21, "STATE: no MEN.");
        refuses("wrong(0)", () -> x.wrong(0), STATE);
        refuses("wrong(30)", () -> x.wrong(30), STATE);
    }

    private void best() {
        says(22, "The HEAT that stays by which fewest would be told WRONGLY (the first);");
        court("i1991 x196");
        due("the last HEAT alone", x.best(), 30);
        court("i1991 x197");
        due("all alike", x.best(), 0);
        court("i1001 m109 x009");
        due("10, as well as 11 to 14", x.best(), 10);
        court("i1001 m000");
        due("0 alone", x.best(), 0);
        heatTo(30);
        due("0, HEAT being 30", x.best(), 0);
        court("i1001 m100");
        due("1 to 30", x.best(), 1);
        tryAll();
        due("of all TRIED", x.best(), 0);

        says(22, "how many by asked().");
        court("i1991 x196");
        asks("none by 30", x.best(), 30, 0);
        court("i1991 x197 x197 x197 x197 x197 x197");
        asks("all six", x.best(), 0, 6);
        court("i1001 m109 x009 m000");
        asks("one of three", x.best(), 0, 1);
        tryAll();
        asks("of all TRIED", x.best(), 0, 0);

        says(22, "STATE: no MEN.");
        refuses("best()", () -> x.best(), STATE);
    }

    private void heats() {
        says(23, "HEATS (bits 0 .. 30) by which one's TRIAL would tell v (0, 1, 2), SALVE as it is, TRIED or not.");
        court("i1996 x196 m009 w000 c000 m199 x199");
        int[][] due = {{1 << 30, ALL_HEATS - (1 << 30), 0}, {ALL_HEATS - (1 << 19) + 1, (1 << 19) - 1, 0},
            {1 << 10, 1023, ALL_HEATS - 2047}, {(1 << 21) - 1024, 1023, ALL_HEATS - (1 << 21) + 1},
            {0, 0, ALL_HEATS}, {0, ALL_HEATS, 0}};
        for (int i = 0; i < 6; i++) {
            for (int v = 0; v <= 2; v++) {
                due("heats(" + i + ", " + v + ")", x.heats(i, v), due[i][v]);
            }
        }
        heatTo(30);
        tryAll();
        for (int i = 0; i < 6; i++) {
            for (int v = 0; v <= 2; v++) {
                due("heats(" + i + ", " + v + ") of one TRIED", x.heats(i, v), due[i][v]);
            }
        }
        x.undo(0);
        x.salve(0);
        due("FOUL by SALVE", x.heats(0, 0), 0);
        x.salve(1);
        due("CLEAN by SALVE", x.heats(1, 1), (1 << 21) - 1);
        x.salve(1);
        x.salve(1);
        due("CLEAN by 3 of SALVE", x.heats(1, 1), (1 << 25) - 1);
        court("i1001 m000");
        due("HEAT 0 alone", x.heats(0, 1), 1);

        says(23, "BAD.");
        refuses("heats(0, 0) without MEN", () -> x.heats(0, 0), BAD);
        court("i1001m000");
        badBeside(0, 0, "heats(i, 1) of one", i -> x.heats(i, 1));
        badBeside(0, 2, "heats(0, v)", v -> x.heats(0, v));
        court(SIX);
        badBeside(0, 5, "heats(i, 1) of six", i -> x.heats(i, 1));
    }

    private void tells() {
        says(24, "What a clean hand tells by a HEAT (0 .. 30): how many of those who COME and are CLEAN are GUILTY, by "
                + "how many they are, told by upper(), lower() (0 by 1: nobody is): 1.");
        court("i1001 m109 m009 m139 x100");
        fraction("tells(0)", x.tells(0), 2, 3);
        fraction("tells(5)", x.tells(5), 2, 3);
        fraction("tells(6)", x.tells(6), 1, 2);
        fraction("tells(9)", x.tells(9), 1, 2);
        fraction("tells(10), nobody", x.tells(10), 0, 1);
        fraction("tells(30), nobody", x.tells(30), 0, 1);
        x.trial(1);
        fraction("tells(6), one TRIED", x.tells(6), 1, 1);
        tryAll();
        fraction("tells(0), all TRIED", x.tells(0), 0, 1);
        court("i1991 x159 x159 x159 x159 x159 x159");
        fraction("tells(30), six of six", x.tells(30), 1, 1);
        court("i1991 x159 x159 x159 x159 x059 x059");
        fraction("tells(30), four of six", x.tells(30), 2, 3);
        court("i1991 x159 x059 x059 x059 x059 x059");
        fraction("tells(30), one of six", x.tells(30), 1, 6);
        court("i1991 x059 x059");
        fraction("tells(30), none of two", x.tells(30), 0, 1);

        says(24, "BAD;");
        badBeside(0, 30, "tells() without MEN", h -> x.tells(h));
        court(SIX);
        badBeside(0, 30, "tells()", h -> x.tells(h));
        says(24, "STATE: no MEN.");
        refuses("tells(0)", () -> x.tells(0), STATE);
        refuses("tells(30)", () -> x.tells(30), STATE);
    }

    // ---- orders

    private void order() {
        says(25, "The fewest told WRONGLY, if all not TRIED are tried one behind the other (the KING being angry as "
                + "told);");
        court("i1002 m009 m108 m009");
        due("order(0): none, if the KING is angry ahead of 1", x.order(0), 0);
        x.trial(0);
        due("order(0): none, as one told CLEAN counts for the KING", x.order(0), 0);
        x.trial(1);
        due("order(0): one, by HEAT 13, and not the one told WRONGLY before", x.order(0), 1);
        x.trial(2);
        due("order(0) of all TRIED", x.order(0), 0);
        court("i1006 m000 m000 m000 m000 m000 m000");
        due("order(0) of six, all WRONGLY", x.order(0), 6);
        court("i1006 m009 m108 m009");
        due("order(0): one, if the KING is never angry", x.order(0), 1);
        court("i1991 x159");
        heatTo(30);
        leaves("order(4), its ROW torn again", () -> x.order(4) + x.tear(4), 2);

        says(25, "the first such order by numbers comes to a ROW (anew).");
        court("i1002 m009 m108 m009");
        x.order(5);
        holds(5, 0, 2, 1);
        x.trial(0);
        x.order(5);
        holds(5, 2, 1);
        x.row(5, 40);
        x.trial(1);
        x.order(5);
        holds(5, 2);
        x.trial(2);
        x.order(5);
        holds(5);
        due("ROWS", x.count(8), 1);
        court("i1006 m000 m009 m000 m100 m000 x000");
        x.order(0);
        holds(0, 0, 1, 2, 3, 4, 5);
        court("i1006 m000 m000 m000 m000 m000 m000");
        x.order(0);
        holds(0, 0, 1, 2, 3, 4, 5);
        court("i1001 m108 m108 m108 m108 m108 m008");
        x.order(0);
        holds(0, 5, 0, 1, 2, 3, 4);

        says(25, "BAD;");
        badBeside(0, 5, "order() without MEN", r -> x.order(r));
        court(SIX);
        badBeside(0, 5, "order()", r -> x.order(r));
        says(25, "STATE: no MEN.");
        row(0, 7, 8);
        refuses("order(0)", () -> x.order(0), STATE);
        refuses("order(5)", () -> x.order(5), STATE);
        holds(0, 7, 8);
    }

    private void tried() {
        says(26, "How many are told WRONGLY by a ROW of those not TRIED (each once), tried so;");
        court("i1002 m009 m108 m009 m000 m109 m100");
        row(0);
        due("tried() of none", x.tried(0), 0);
        row(0, 1);
        due("tried() of one, CLEAN and GUILTY", x.tried(0), 1);
        row(0, 0, 2, 1, 3, 4, 5);
        due("tried() of six", x.tried(0), 1);
        row(0, 5, 4, 3, 2, 1, 0);
        due("tried() of six, the last first", x.tried(0), 3);
        x.trial(0);
        row(0, 2, 1);
        due("tried() behind one told CLEAN", x.tried(0), 0);
        due("DEEDS", x.count(2), 1);

        says(26, "HEAT behind it by asked().");
        court("i1992 x059 x059 x059 x059");
        row(0);
        asks("tried() of none", x.tried(0), 0, 8);
        row(0, 3);
        asks("tried() of one", x.tried(0), 0, 8);
        row(0, 3, 1);
        asks("tried() of two", x.tried(0), 0, 13);
        row(0, 3, 1, 0, 2);
        asks("tried() of four", x.tried(0), 0, 23);
        heatTo(25);
        row(0, 0, 1);
        asks("HEAT up to 30", x.tried(0), 0, 30);
        row(0, 0, 1, 2);
        asks("HEAT 30 at most", x.tried(0), 0, 30);
        due("HEAT stays", x.count(1), 25);
        court("i1002 m000 m199 m009 m009");
        row(0, 0, 1, 2);
        asks("one FOUL, one who does not COME, one CLEAN", x.tried(0), 1, 8);
        row(0, 0, 1, 2, 3);
        asks("one FOUL, one who does not COME, two CLEAN", x.tried(0), 1, 13);
        row(0, 2, 3, 0, 1);
        asks("two CLEAN, one FOUL, one who does not COME", x.tried(0), 1, 13);

        says(26, "BAD;");
        badBeside(0, 5, "tried() without MEN", r -> x.tried(r));
        court(SIX);
        badBeside(0, 5, "tried()", r -> x.tried(r));
        says(26, "STATE: no MEN;");
        row(0);
        refuses("tried(0)", () -> x.tried(0), STATE);
        says(26, "NOTHING;");
        court(SIX);
        finds("tried(0)", () -> x.tried(0), NOTHING);
        x.order(0);
        x.tear(0);
        finds("tried(0) behind tear()", () -> x.tried(0), NOTHING);

        says(26, "SIZE: more than 6;");
        court(SIX);
        row(0, 0, 1, 2, 3, 4, 5, 0);
        finds("tried() of seven", () -> x.tried(0), SIZE);
        x.row(0, 40);
        finds("tried() of 40", () -> x.tried(0), SIZE);
        row(0, 0, 1, 2, 3, 4, 5);
        due("tried() of six", x.tried(0) >= 0 ? 1 : 0, 1);

        says(26, "UNLIKE: no MAN, one TRIED, one twice.");
        court("i1006 m000 m000 m000");
        for (int no : new int[] {LEAST, -1, 3, 31, 32, MOST}) {
            row(0, 0, no);
            finds("tried() of " + no, () -> x.tried(0), UNLIKE);
        }
        row(0, 1, 1);
        finds("tried() of one twice", () -> x.tried(0), UNLIKE);
        row(0, 0, 1, 2, 0);
        finds("tried() of the first twice", () -> x.tried(0), UNLIKE);
        x.trial(2);
        row(0, 2);
        finds("tried() of one TRIED", () -> x.tried(0), UNLIKE);
        row(0, 0, 1, 2);
        finds("tried() of one TRIED at last", () -> x.tried(0), UNLIKE);
        row(0, 1, 0);
        due("tried() of all left", x.tried(0), 2);

        says(26, "(In this order.)");
        refuses("BAD ahead of STATE", () -> x.tried(6), BAD);
        refuses("STATE ahead of NOTHING", () -> x.tried(0), STATE);
        row(0, 9, 9, 9, 9, 9, 9, 9);
        refuses("STATE ahead of SIZE", () -> x.tried(0), STATE);
        court(SIX);
        finds("SIZE ahead of UNLIKE", () -> x.tried(0), SIZE);
        finds("NOTHING", () -> x.tried(1), NOTHING);
    }

    private void least() {
        says(27, "The least SALVE more (3 at most each) by which all not TRIED and not GUILTY who COME now would be "
                + "CLEAN by HEAT now;");
        for (int hand = 2; hand <= 9; hand++) {
            court("i1001m00" + hand);
            due("least() of HAND " + hand, x.least(), (9 - hand) / 2);
        }
        court("i1061 m009 m001 x009");
        due("least() of one, two having more than enough", x.least(), 1);
        court("i1001 m002 m002 m002 m002 m002 m002");
        due("least() of 3 for each of six", x.least(), 18);
        for (int k = 1; k <= 3; k++) {
            x.salve(5);
            due("least() behind SALVE", x.least(), 18 - k);
        }
        court("i1001 m100 m002 m139 w000");
        x.heat(3);
        x.heat(-2);
        x.salve(1);
        x.salve(1);
        x.salve(1);
        due("NONE by 9", x.least(), NONE);
        x.heat(2);
        x.trial(1);
        due("of nobody left who COMES and is not GUILTY", x.least(), 0);
        x.heat(-3);
        due("of a WOMAN by 8 whom no SALVE helps", x.least(), NONE);
        heatTo(0);
        due("by HEAT 0", x.least(), 0);

        says(27, "how many of MEN need any by asked().");
        court("i1001 m002 m003 m004 m008 m107 m009");
        asks("least()", x.least(), 8, 3);
        x.salve(2);
        x.salve(2);
        asks("least() behind SALVE enough", x.least(), 6, 2);
        tryAll();
        asks("least() of all TRIED", x.least(), 0, 0);
        court("i1001 m007 m007 m007 m007 m007 m007");
        asks("least() of six", x.least(), 6, 6);

        says(27, "NONE: by none.");
        court("i1001 m001");
        leaves("4 due, as it BURNS 7", () -> x.least(), NONE);
        x.salve(0);
        leaves("3 due, having 1", () -> x.least(), NONE);
        x.salve(0);
        leaves("2 due, having 2", () -> x.least(), NONE);
        x.salve(0);
        leaves("1 due, having 3", () -> x.least(), NONE);
        x.heat(-1);
        asks("none due, having 3", x.least(), 0, 0);
        court("i1001 m007 m001");
        x.man(0, 3);
        leaves("one of two", () -> x.least(), NONE);
        due("asked()", x.asked(), 7);

        says(27, "STATE: no MEN.");
        refuses("least()", () -> x.least(), STATE);
    }

    // ---- how hot it was

    private void pairs(IntUnaryOperator call, int firstMost) {
        for (int size : new int[] {1, 3, 39}) {
            x.row(0, size);
            finds("a ROW of " + size, () -> call.applyAsInt(0), SIZE);
        }
        x.row(0, 40);
        due("a ROW of 40 is well", call.applyAsInt(0) >= 0 ? 1 : 0, 1);
        x.row(0, 0);
        due("a ROW without places is well", call.applyAsInt(0) >= 0 ? 1 : 0, 1);
        row(0, firstMost + 1, 3, 0);
        finds("SIZE ahead of UNLIKE", () -> call.applyAsInt(0), SIZE);
    }

    private void unlike(IntUnaryOperator call, int firstMost) {
        for (int no : new int[] {LEAST, -1, firstMost + 1, MOST}) {
            row(0, 0, 0, no, 0);
            finds("a ROW with " + no + " at first", () -> call.applyAsInt(0), UNLIKE);
        }
        for (int no : new int[] {LEAST, -1, 3, MOST}) {
            row(0, 0, no);
            finds("a ROW with " + no + " at last", () -> call.applyAsInt(0), UNLIKE);
        }
        row(0, 0, 0, firstMost, 2);
        call.applyAsInt(0);
        due("FINDINGS, none of them of a ROW with " + firstMost + " and 2", x.findings(UNLIKE), 8);
    }

    private void fits() {
        says(28, "HEATS (bits) by which all is so;");
        court("i1003 m004 w009 c009 m139 x196");
        row(0);
        due("fits() of none", x.fits(0), ALL_HEATS);
        row(0, 0, 1);
        due("fits() of 0 to 4", x.fits(0), 31);
        row(0, 0, 0);
        due("fits() of 5 to 30", x.fits(0), ALL_HEATS - 31);
        row(0, 0, 1, 0, 1, 0, 1);
        due("fits() of the same thrice", x.fits(0), 31);
        row(0, 0, 1, 0, 0);
        due("fits() of both", x.fits(0), 0);
        row(0, 1, 0);
        due("fits() of 10 alone", x.fits(0), 1024);
        row(0, 2, 2, 1, 2);
        due("fits() of 21 to 30", x.fits(0), ALL_HEATS - (1 << 21) + 1);
        row(0, 3, 2);
        due("fits() of one who never COMES", x.fits(0), ALL_HEATS);
        row(0, 3, 1);
        due("fits() of one who never COMES, told CLEAN", x.fits(0), 0);
        x.trial(0);
        x.trial(3);
        row(0, 0, 1, 3, 2);
        due("fits() of those TRIED, by what they would tell", x.fits(0), 31);
        due("HEAT stays", x.count(1), 8);

        says(28, "how many by asked().");
        court("i1003 m004 w009");
        row(0);
        asks("fits() of none", x.fits(0), ALL_HEATS, 31);
        row(0, 1, 0);
        asks("fits() of 10 alone", x.fits(0), 1024, 1);
        row(0, 0, 1, 0, 0);
        asks("fits() of both", x.fits(0), 0, 0);
        trialsRefused(28, "STATE: no MEN;", "SIZE: not by pairs (a ROW without places is well);",
                "UNLIKE: no MAN, no 0, 1, 2.", r -> x.fits(r));
    }

    /** What fits() and ask() refuse alike. */
    private void trialsRefused(int promise, String state, String size, String unlike, IntUnaryOperator call) {
        says(promise, "BAD;");
        badBeside(0, 5, "a ROW without MEN", call);
        court(SIX);
        badBeside(0, 5, "a ROW", call);
        says(promise, state);
        x.row(0, 0);
        refuses("a ROW without MEN", () -> call.applyAsInt(0), STATE);
        says(promise, "NOTHING;");
        court(SIX);
        finds("a ROW missing", () -> call.applyAsInt(0), NOTHING);
        says(promise, size);
        court("i1006 m000 m000 m000 m000 m000 m000");
        pairs(call, 5);
        says(promise, unlike);
        court(SIX);
        unlike(call, 5);
        court("i1001m000");
        row(0, 1, 0);
        finds("the second of one", () -> call.applyAsInt(0), UNLIKE);

        says(promise, "(In this order.)");
        refuses("BAD ahead of STATE", () -> call.applyAsInt(6), BAD);
        refuses("STATE ahead of NOTHING", () -> call.applyAsInt(0), STATE);
        row(0, 9);
        refuses("STATE ahead of SIZE", () -> call.applyAsInt(0), STATE);
        court(SIX);
        finds("SIZE ahead of UNLIKE", () -> call.applyAsInt(0), SIZE);
        finds("NOTHING", () -> call.applyAsInt(1), NOTHING);
        row(0, 0, 0, 0, 1, 6, 0);
        finds("UNLIKE, though no HEAT fits", () -> call.applyAsInt(0), UNLIKE);
    }

    private void ask() {
        says(29, "The MAN (the first, TRIED or not) whose TRIAL would part these HEATS best: the greatest part by what it "
                + "tells is least;");
        court("i1006 m004 m009 w009 w009");
        row(0);
        due("ask() of all HEATS", x.ask(0), 2);
        x.trial(2);
        due("ask(), TRIED or not", x.ask(0), 2);
        row(0, 0, 1);
        due("ask() of 0 to 4, nobody parts them", x.ask(0), 0);
        row(0, 2, 1);
        due("ask() of 0 to 9", x.ask(0), 0);
        row(0, 0, 0, 1, 1);
        due("ask() of 5 to 9, nobody parts them", x.ask(0), 0);
        row(0, 0, 0, 2, 2);
        due("ask() of 11 to 30, nobody parts them", x.ask(0), 0);
        row(0, 2, 0);
        due("ask() of 10 alone", x.ask(0), 0);
        row(0, 0, 0);
        due("ask() of 5 to 30", x.ask(0), 2);
        court("i1006 m199");
        row(0);
        due("ask() of one who never COMES", x.ask(0), 0);
        court("i1006 m199 m199 m199 m199 m199 m000");
        due("ask(): the sixth", x.ask(0), 5);
        court("i1006 m199 m009 m199");
        due("ask(): the second", x.ask(0), 1);

        says(29, "that part by asked().");
        court("i1006 m004 m009 w009 w009");
        row(0);
        asks("ask() of all HEATS", x.ask(0), 2, 20);
        row(0, 2, 1);
        asks("ask() of 0 to 9, halves", x.ask(0), 0, 5);
        row(0, 2, 0);
        asks("ask() of 10 alone", x.ask(0), 0, 1);
        row(0, 0, 0, 2, 2);
        asks("ask() of 11 to 30, nobody parts them", x.ask(0), 0, 20);
        court("i1006 m199");
        row(0);
        asks("ask() of one who never COMES", x.ask(0), 0, 31);

        says(29, "NONE: no HEAT fits.");
        court("i1006 m004 m199");
        x.man(0, 3);
        row(0, 0, 1, 0, 0);
        x.man(0, 3);
        leaves("both CLEAN and FOUL", () -> x.ask(0), NONE);
        row(0, 1, 1);
        x.man(0, 3);
        leaves("one who never COMES, told CLEAN", () -> x.ask(0), NONE);
        due("asked()", x.asked(), 4);
        trialsRefused(29, "STATE;", "SIZE;", "UNLIKE.", r -> x.ask(r));
    }

    // ---- hands, kinds

    private void hand(int i, int heat, int told, int due) {
        row(0, heat, told);
        due("hands() of " + i + " by " + heat + ", " + told, x.hands(i, 0), due);
    }

    private void hands() {
        says(30, "HANDS as told (bits 0 .. 9) that one can have by a ROW of pairs (a HEAT 0 .. 30, what his TRIAL told), "
                + "SALVE, all else as it is.");
        court("i1006 m005 p005 c005 w005 x005 n005");
        row(0);
        due("hands() of none", x.hands(0, 0), 1023);
        hand(0, 0, 1, 1023);
        hand(0, 0, 0, 0);
        hand(0, 9, 1, 512);
        hand(0, 10, 1, 0);
        hand(0, 10, 0, 1023);
        hand(0, 30, 0, 1023);
        hand(0, 1, 0, 1);
        hand(0, 8, 2, 0);
        hand(1, 12, 1, 512);
        hand(1, 13, 1, 0);
        hand(2, 4, 1, 256 + 512);
        hand(2, 5, 1, 0);
        hand(2, 20, 2, 0);
        hand(2, 21, 2, 1023);
        hand(3, 9, 1, 512);
        hand(3, 10, 2, 0);
        hand(3, 11, 2, 1023);
        hand(3, 11, 0, 0);
        hand(4, 14, 1, 512);
        hand(4, 15, 1, 0);
        hand(5, 9, 1, 256 + 512);
        hand(5, 10, 1, 0);
        handsAsItIs();
        supposingRefused(30, "SIZE: not by pairs (a ROW without places is well);", (i, r) -> x.hands(i, r));
    }

    private void handsAsItIs() {
        row(0, 5, 1, 6, 0);
        due("5 alone", x.hands(0, 0), 32);
        row(0, 5, 1, 5, 0);
        due("none by both", x.hands(0, 0), 0);
        asks("how HARD he is stays", x.man(0, 3), 1, 5);
        x.trial(0);
        row(0, 5, 1, 6, 0);
        due("5 alone, TRIED", x.hands(0, 0), 32);
        x.undo(0);
        x.salve(0);
        hand(0, 10, 1, 256 + 512);
        x.salve(0);
        x.salve(0);
        hand(0, 15, 1, 512);
        hand(0, 16, 1, 0);
        court("i1006 m139 m129");
        hand(0, 0, 2, 1023);
        hand(0, 30, 1, 0);
        hand(1, 0, 2, 0);
    }

    private void kind(int i, int heat, int told, int due) {
        row(0, heat, told);
        due("kinds() of " + i + " by " + heat + ", " + told, x.kinds(i, 0), due);
    }

    private void kinds() {
        says(31, "KINDS (bits) that one can be of by such a ROW.");
        court("i1006 m004 w004 m134");
        row(0);
        due("kinds() of none", x.kinds(0, 0), 63);
        for (int i = 0; i <= 1; i++) {
            kind(i, 0, 1, 63);
            kind(i, 4, 1, 1 + 2 + 8 + 16 + 32);
            kind(i, 5, 1, 2 + 16 + 32);
            kind(i, 6, 1, 2 + 16);
            kind(i, 8, 1, 16);
            kind(i, 9, 1, 16);
            kind(i, 10, 1, 0);
            kind(i, 10, 2, 0);
            kind(i, 11, 2, 8);
            kind(i, 20, 2, 8);
            kind(i, 21, 2, 4 + 8 + 32);
            kind(i, 30, 0, 1 + 2 + 16);
        }
        kind(2, 0, 2, 63 - 16);
        kind(2, 0, 1, 16);
        row(0, 4, 1, 5, 0);
        due("a MAN, a WOMAN", x.kinds(0, 0), 1 + 8);
        row(0, 4, 1, 4, 0);
        due("none by both", x.kinds(0, 0), 0);
        asks("his KIND stays", x.man(0, 0), 1, 0);
        asks("how HARD he is stays", x.man(0, 3), 1, 4);
        x.salve(0);
        kind(0, 6, 1, 1 + 2 + 8 + 16 + 32);
        x.trial(0);
        kind(0, 6, 1, 1 + 2 + 8 + 16 + 32);
        supposingRefused(31, "SIZE;", (i, r) -> x.kinds(i, r));
    }

    /** What hands() and kinds() refuse alike. */
    private void supposingRefused(int promise, String size, IntBinaryOperator call) {
        says(promise, "BAD;");
        row(0);
        refuses("MAN 0 without MEN", () -> call.applyAsInt(0, 0), BAD);
        court(SIX);
        badBeside(0, 5, "a MAN", i -> call.applyAsInt(i, 0));
        badBeside(0, 5, "a ROW", r -> call.applyAsInt(0, r));
        says(promise, "NOTHING;");
        court(SIX);
        finds("a ROW missing", () -> call.applyAsInt(0, 0), NOTHING);
        says(promise, size);
        court(SIX);
        pairs(r -> call.applyAsInt(5, r), MOST_HEAT);
        says(promise, "UNLIKE.");
        court(SIX);
        unlike(r -> call.applyAsInt(5, r), MOST_HEAT);

        says(promise, "(In this order.)");
        refuses("BAD without MEN", () -> call.applyAsInt(0, 0), BAD);
        court(SIX);
        refuses("BAD, a MAN, ahead of NOTHING", () -> call.applyAsInt(6, 0), BAD);
        refuses("BAD, a ROW, ahead of all", () -> call.applyAsInt(0, 6), BAD);
        finds("NOTHING", () -> call.applyAsInt(0, 0), NOTHING);
        row(0, 31);
        finds("SIZE ahead of UNLIKE", () -> call.applyAsInt(0, 0), SIZE);
    }
}
