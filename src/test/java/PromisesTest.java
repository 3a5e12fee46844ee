/** Each promise of the document by hand: ordinary inputs, the edges that it names, wrong inputs. */
final class PromisesTest extends Calls {
    private PromisesTest() {
        super("PromisesTest");
    }

    public static void main(String[] args) {
        PromisesTest test = new PromisesTest();
        test.rowsAndTexts();
        test.courts();
        test.deeds();
        test.heats();
        test.orders();
        test.howHot();
        test.chances();
        test.told();
        test.check.end();
    }

    private void promise(int number) {
        begin("promise " + number);
    }

    // ---- promises

    private void rowsAndTexts() {
        promise(1);
        for (int what = 0; what <= 10; what++) {
            due("count(" + what + ")", x.count(what), what == 1 ? 8 : 0);
        }
        finds("at(0, 0)", () -> x.at(0, 0), NOTHING);
        finds("fault(3)", () -> x.fault(3), NOTHING);

        promise(2);
        due("row(0, 3)", x.row(0, 3), 3);
        holds(0, 0, 0, 0);
        x.lay(0, 0, 6);
        x.lay(0, 1, 7);
        due("row(0, 2) anew", x.row(0, 2), 2);
        holds(0, 0, 0);
        due("row(5, 40)", x.row(5, 40), 40);
        due("row(5, 0)", x.row(5, 0), 0);
        refuses("row(0, 41)", () -> x.row(0, 41), BAD);
        refuses("row(6, 1)", () -> x.row(6, 1), BAD);
        refuses("row(-1, -1)", () -> x.row(-1, -1), BAD);
        refuses("row(0, most)", () -> x.row(0, Integer.MAX_VALUE), BAD);
        finds("row(0, -1)", () -> x.row(0, -1), SIZE);
        finds("row(1, least)", () -> x.row(1, Integer.MIN_VALUE), SIZE);

        promise(3);
        finds("lay(2, 0, 5) without a row", () -> x.lay(2, 0, 5), NOTHING);
        x.row(2, 2);
        asks("lay(2, 1, 5)", x.lay(2, 1, 5), 1, 0);
        asks("lay(2, 1, least)", x.lay(2, 1, Integer.MIN_VALUE), 1, 5);
        asks("lay(2, 1, 3)", x.lay(2, 1, 3), 1, Integer.MIN_VALUE);
        holds(2, 0, 3);
        finds("lay(2, 2, 1)", () -> x.lay(2, 2, 1), BEYOND);
        finds("lay(2, -1, 1)", () -> x.lay(2, -1, 1), BEYOND);
        refuses("lay(6, 0, 1)", () -> x.lay(6, 0, 1), BAD);
        refuses("lay(-1, 9, 1)", () -> x.lay(-1, 9, 1), BAD);

        promise(4);
        finds("at(1, 0) without a row", () -> x.at(1, 0), NOTHING);
        row(1, 4, -5);
        asks("at(1, 1)", x.at(1, 1), 1, -5);
        finds("at(1, 2)", () -> x.at(1, 2), BEYOND);
        finds("at(1, -1)", () -> x.at(1, -1), BEYOND);
        refuses("at(6, 0)", () -> x.at(6, 0), BAD);

        promise(5);
        finds("tear(0) without a row", () -> x.tear(0), NOTHING);
        x.row(0, 0);
        due("tear(0)", x.tear(0), 1);
        due("count(8)", x.count(8), 0);
        finds("tear(0) again", () -> x.tear(0), NOTHING);
        refuses("tear(6)", () -> x.tear(6), BAD);
        refuses("tear(-1)", () -> x.tear(-1), BAD);

        copies();
        meansAndTexts();
    }

    private void copies() {
        promise(6);
        row(0, 1, 2, 3, 4, 5);
        row(1, 9, 9, 9);
        due("copy(0, 1, 1, 0, 2)", x.copy(0, 1, 1, 0, 2), 1);
        holds(1, 2, 3, 9);
        holds(0, 1, 2, 3, 4, 5);
        due("copy onto itself ahead", x.copy(0, 0, 0, 1, 4), 1);
        holds(0, 1, 1, 2, 3, 4);
        due("copy onto itself behind", x.copy(0, 1, 0, 0, 4), 1);
        holds(0, 1, 2, 3, 4, 4);
        due("copy of none at the ends", x.copy(0, 5, 1, 3, 0), 1);
        finds("copy of none beyond", () -> x.copy(0, 6, 1, 0, 0), BEYOND);
        finds("copy of none to beyond", () -> x.copy(0, 0, 1, 4, 0), BEYOND);
        finds("copy from below", () -> x.copy(0, -1, 1, 0, 0), BEYOND);
        finds("copy to below", () -> x.copy(0, 0, 1, -1, 0), BEYOND);
        finds("copy of too many", () -> x.copy(0, 3, 1, 0, 3), BEYOND);
        finds("copy onto too few", () -> x.copy(0, 0, 1, 1, 3), BEYOND);
        finds("copy of most", () -> x.copy(0, 1, 1, 1, Integer.MAX_VALUE), BEYOND);
        finds("copy of a missing one", () -> x.copy(2, 0, 1, 0, 0), NOTHING);
        finds("copy onto a missing one", () -> x.copy(0, 9, 2, 0, 0), NOTHING);
        finds("copy of fewer than none, missing", () -> x.copy(2, 0, 3, 0, -1), SIZE);
        refuses("copy from a row that is none", () -> x.copy(6, 0, 0, 0, -1), BAD);
        refuses("copy to a row that is none", () -> x.copy(0, 0, -1, 0, 1), BAD);
    }

    private void meansAndTexts() {
        promise(7);
        finds("mean(0) without a row", () -> x.mean(0), NOTHING);
        x.row(0, 0);
        finds("mean(0) of none", () -> x.mean(0), NOUGHT);
        row(0, 2, 3);
        asks("mean of 2, 3", x.mean(0), 1, 2);
        row(0, -2, -3);
        asks("mean of -2, -3", x.mean(0), 1, -2);
        row(0, Integer.MAX_VALUE, Integer.MAX_VALUE, Integer.MAX_VALUE);
        asks("mean of the most", x.mean(0), 1, Integer.MAX_VALUE);
        row(0, Integer.MIN_VALUE, Integer.MIN_VALUE);
        asks("mean of the least", x.mean(0), 1, Integer.MIN_VALUE);
        refuses("mean(6)", () -> x.mean(6), BAD);

        promise(8);
        due("text(0, 60)", x.text(0, 60), 60);
        due("its last byte", x.put(0, 59, 1), 1032);
        due("text(0, 60) anew", x.text(0, 60), 60);
        due("its last byte anew", x.put(0, 59, 1), 1032);
        due("text(3, 0)", x.text(3, 0), 0);
        refuses("text(0, 61)", () -> x.text(0, 61), BAD);
        refuses("text(4, 1)", () -> x.text(4, 1), BAD);
        refuses("text(-1, -1)", () -> x.text(-1, -1), BAD);
        finds("text(0, -1)", () -> x.text(0, -1), SIZE);

        promise(9);
        finds("put(1, 0, 5) without a text", () -> x.put(1, 0, 5), NOTHING);
        x.text(1, 2);
        due("put(1, 1, 128)", x.put(1, 1, 128), 1032);
        due("put(1, 1, 127)", x.put(1, 1, 127), 1000 - 128);
        due("put(1, 1, -129)", x.put(1, 1, -129), 1127);
        due("put(1, 1, 261)", x.put(1, 1, 261), 1127);
        due("put(1, 1, 0)", x.put(1, 1, 0), 1005);
        finds("put(1, 2, 0)", () -> x.put(1, 2, 0), BEYOND);
        finds("put(1, -1, 0)", () -> x.put(1, -1, 0), BEYOND);
        refuses("put(4, 0, 0)", () -> x.put(4, 0, 0), BAD);
    }

    private void courts() {
        promise(10);
        finds("fault(2) without a text", () -> x.fault(2), NOTHING);
        refuses("fault(4)", () -> x.fault(4), BAD);
        refuses("fault(-1)", () -> x.fault(-1), BAD);
        fault("", 0);
        fault("   ", 3);
        fault("m000", 0);
        fault("  j", 2);
        fault("i", 1);
        fault("i1", 2);
        fault("i0001m000", 1);
        fault("i4001m000", 1);
        fault("i1/01m000", 2);
        fault("i1:01m000", 2);
        fault("i10:1m000", 3);
        fault("i1000m000", 4);
        fault("i1007m000", 4);
        fault("i 1001m000", 1);
        fault("i1001", 5);
        fault("i1001  ", 7);
        fault("i1001 z000", 6);
        fault("i1001i1001", 5);
        fault("i1001M000", 5);
        fault("i1001m", 6);
        fault("i1001m2", 6);
        fault("i1001m 000", 6);
        fault("i1001m09", 8);
        fault("i1001m0a0", 7);
        fault("i1001m00a", 8);
        fault("i1001m0:0", 7);
        fault("i1001m00:", 8);
        fault("i1001m/00", 6);
        fault("i1001m000,", 9);
        fault("i1001m000 p", 11);
        fault("i3996m199p000c000w000x000n000", NONE);
        fault(" i3996 m199 p000 c000 w000 x000 n000 ", NONE);
        fault("i3996m199p000c000w000x000n000 m000", 30);
        fault("i3996m199p000c000w000x000n000z", 29);
        fault("  i1996   m199  ", NONE);
        text(0, "i1001m000");
        x.put(0, 5, 'm' - 256);
        due("a byte below 0 that is cut to m", x.fault(0), NONE);
        x.put(0, 5, -109);
        due("a byte below 0", x.fault(0), 5);
        text(0, "  i1001m000");
        x.text(0, 2);
        due("a text shorter than the one before", x.fault(0), 2);

        promise(11);
        finds("court(1) without a text", () -> x.court(1), NOTHING);
        refuses("court(4)", () -> x.court(4), BAD);
        text(0, "i1001m000p");
        refuses("court(0) of a fault", () -> x.court(0), STATE);
        due("count(0)", x.count(0), 0);
        text(0, SIX);
        due("court(0)", x.court(0), 6);
        x.heat(2);
        x.salve(1);
        x.trial(0);
        x.keep(0);
        x.keep(1);
        x.keep(2);
        text(1, "i1001 m000 w111");
        due("court(1)", x.court(1), 2);
        due("HEAT anew", x.count(1), 8);
        due("no DEEDS", x.count(2), 0);
        due("nobody TRIED", x.count(3), 0);
        due("no SALVE", x.count(6), 0);
        due("no kept COURTS", x.count(10), 0);
        finds("on(0)", () -> x.on(0), NOTHING);
        finds("on(2)", () -> x.on(2), NOTHING);
        due("court(0) again", x.court(0), 6);
        asks("man(1, 7)", x.man(1, 7), 1, 0);
        x.put(0, 6, 'w');
        asks("a text changed behind a court", x.man(0, 0), 1, 0);

        men();
        marks();
    }

    private void men() {
        promise(12);
        refuses("man(0, 0) without men", () -> x.man(0, 0), BAD);
        court(SIX);
        int[][] men = {
            {0, 0, 2, 4, 4, 1, 1, 0, NONE}, {1, 1, 6, 6, 0, 0, 1, 0, NONE}, {2, 0, 5, 3, 2, 1, 1, 0, NONE},
            {3, 1, 2, 5, 3, 1, 1, 0, NONE}, {4, 1, 9, 9, 0, 1, 1, 0, NONE}, {5, 0, 3, 3, 1, 1, 1, 0, NONE}};
        for (int i = 0; i < 6; i++) {
            for (int what = 0; what <= 8; what++) {
                asks("man(" + i + ", " + what + ")", x.man(i, what), 1, men[i][what]);
            }
        }
        refuses("man(6, 0)", () -> x.man(6, 0), BAD);
        refuses("man(-1, 0)", () -> x.man(-1, 0), BAD);
        refuses("man(0, 9)", () -> x.man(0, 9), BAD);
        refuses("man(0, -1)", () -> x.man(0, -1), BAD);
        x.salve(3);
        x.trial(3);
        asks("SALVE", x.man(3, 7), 1, 1);
        asks("told CLEAN", x.man(3, 8), 1, 1);
        comings();
        burnings();
    }

    private void comings() {
        court("i1001 c000 w020 n120 w130 m129 m130");
        x.heat(2);
        asks("a WOMAN by 10", x.man(1, 5), 1, 1);
        x.heat(1);
        asks("a WOMAN by 11", x.man(1, 5), 1, 0);
        asks("a GUILTY WOMAN who believes", x.man(3, 5), 1, 0);
        asks("GUILTY, BELIEF 2", x.man(4, 5), 1, 1);
        asks("GUILTY, BELIEF 3", x.man(5, 5), 1, 0);
        x.heat(5);
        x.heat(4);
        asks("a CLERK by 20", x.man(0, 5), 1, 1);
        asks("a NEPHEW by 20", x.man(2, 5), 1, 1);
        x.heat(1);
        asks("a CLERK by 21", x.man(0, 5), 1, 0);
        asks("a NEPHEW by 21", x.man(2, 5), 1, 0);
        court("i1001 x199 c131 n131");
        x.heat(5);
        asks("a PROXY always", x.man(0, 5), 1, 1);
        asks("a GUILTY CLERK who believes", x.man(1, 5), 1, 0);
        asks("a GUILTY NEPHEW who believes", x.man(2, 5), 1, 0);
    }

    private void burnings() {
        court("i2971 m045 m055 n053 n047 p040 m059");
        int[] burns = {11, 0, 0, 5, 13, 0};
        for (int i = 0; i < 6; i++) {
            asks("what it burns " + i, x.man(i, 4), 1, burns[i]);
        }
        asks("FOUL by 13 above 7", x.man(4, 6), 1, 0);
        x.salve(4);
        x.salve(4);
        asks("FOUL by 13 above 11", x.man(4, 6), 1, 0);
        x.salve(4);
        asks("CLEAN by 13, two for each SALVE", x.man(4, 6), 1, 1);
        x.heat(5);
        asks("what is less by MERCY", x.man(1, 4), 1, 3);
        asks("half of what is less by MERCY", x.man(2, 4), 1, 3);
    }

    private void marks() {
        promise(13);
        refuses("mark(0, 1) without men", () -> x.mark(0, 1), BAD);
        court(SIX);
        due("a PLOUGHMAN's HEAT", x.mark(1, 1), 5);
        due("a PROXY's HEAT", x.mark(4, 1), 8);
        due("a CLERK's", x.mark(2, 2), 3);
        due("a NEPHEW's as a CLERK", x.mark(5, 2), 4);
        due("a WOMAN's by 8", x.mark(3, 3), 0);
        due("a PROXY's", x.mark(4, 4), 1);
        due("a NEPHEW's", x.mark(5, 5), 4);
        finds("a MAN as a PLOUGHMAN", () -> x.mark(0, 1), UNLIKE);
        finds("a PLOUGHMAN as a PROXY", () -> x.mark(1, 4), UNLIKE);
        finds("a CLERK as a NEPHEW", () -> x.mark(2, 5), UNLIKE);
        finds("a CLERK as a WOMAN", () -> x.mark(2, 3), UNLIKE);
        finds("a WOMAN as a CLERK", () -> x.mark(3, 2), UNLIKE);
        refuses("mark(0, 0)", () -> x.mark(0, 0), BAD);
        refuses("mark(0, 6)", () -> x.mark(0, 6), BAD);
        refuses("mark(6, 1)", () -> x.mark(6, 1), BAD);
        refuses("mark(-1, 1)", () -> x.mark(-1, 1), BAD);
        x.trial(1);
        due("a PROXY's, others TRIED or not", x.mark(4, 4), 1);
        x.heat(5);
        due("a WOMAN's by 13", x.mark(3, 3), 3);
        due("a PROXY's by 13", x.mark(4, 4), 2);
        due("a PLOUGHMAN's by 13", x.mark(1, 1), 0);
        x.heat(1);
        due("a PLOUGHMAN's who is not CLEAN", x.mark(1, 1), 0);
        court("i1991 p059 p000 n058 c001");
        due("a PLOUGHMAN's to 30", x.mark(0, 1), 22);
        x.salve(0);
        due("30 at most", x.mark(0, 1), 22);
        due("a PLOUGHMAN's to 12", x.mark(1, 1), 4);
        due("a NEPHEW's of MERCY more than HEAT", x.mark(2, 5), 0);
        due("a CLERK's of HAND 1", x.mark(3, 2), 1);
        x.heat(4);
        due("a NEPHEW's of 3", x.mark(2, 5), 2);
        court("i1001 m199 x000 m199");
        due("a PROXY's of two", x.mark(1, 4), 2);
    }

    private void deeds() {
        promise(14);
        refuses("heat(1) without men", () -> x.heat(1), STATE);
        refuses("heat(0) without men", () -> x.heat(0), BAD);
        court(SIX);
        due("heat(5)", x.heat(5), 13);
        due("heat(-5)", x.heat(-5), 8);
        due("heat(-5) again", x.heat(-5), 3);
        due("heat kept from below 0", x.heat(-5), 0);
        due("heat(-1) at 0, a DEED", x.heat(-1), 0);
        due("DEEDS", x.count(2), 5);
        for (int k = 1; k <= 6; k++) {
            due("heat up", x.heat(5), 5 * k);
        }
        due("heat kept to 30", x.heat(2), 30);
        refuses("heat(0)", () -> x.heat(0), BAD);
        refuses("heat(6)", () -> x.heat(6), BAD);
        refuses("heat(-6)", () -> x.heat(-6), BAD);
        fill(28);
        due("DEEDS", x.count(2), 40);
        refuses("heat(1) of 40", () -> x.heat(1), FULL);
        refuses("heat(6) of 40", () -> x.heat(6), BAD);

        promise(15);
        refuses("salve(0) without men", () -> x.salve(0), BAD);
        court(SIX);
        due("salve(0)", x.salve(0), 1);
        due("salve(0)", x.salve(0), 2);
        due("salve(5)", x.salve(5), 1);
        due("salve(0)", x.salve(0), 3);
        refuses("salve(0) of 3", () -> x.salve(0), STATE);
        x.trial(1);
        refuses("salve(1) of one TRIED", () -> x.salve(1), STATE);
        refuses("salve(6)", () -> x.salve(6), BAD);
        refuses("salve(-1)", () -> x.salve(-1), BAD);
        fill(34);
        due("salve(3), the last DEED", x.salve(3), 1);
        refuses("salve(2) of 40", () -> x.salve(2), FULL);
        refuses("salve(0) of 40", () -> x.salve(0), STATE);

        trials();
        undoings();
        keepings();
    }

    private void trials() {
        promise(16);
        refuses("trial(0) without men", () -> x.trial(0), BAD);
        court("i1003 m109 m029 m007 m139 m039 m159");
        asks("GUILTY and CLEAN", x.trial(0), 1, 1);
        due("HEAT behind one CLEAN", x.count(1), 8);
        asks("not GUILTY and FOUL", x.trial(2), 0, 1);
        asks("not GUILTY and CLEAN", x.trial(1), 1, 0);
        due("HEAT behind two CLEAN", x.count(1), 8);
        asks("GUILTY, does not COME", x.trial(3), 2, 0);
        asks("the third CLEAN", x.trial(4), 1, 0);
        due("the KING is angry", x.count(1), 13);
        refuses("trial(4) again", () -> x.trial(4), STATE);
        refuses("trial(6)", () -> x.trial(6), BAD);
        refuses("trial(-1)", () -> x.trial(-1), BAD);
        fill(34);
        due("DEEDS", x.count(2), 39);
        asks("trial(5), the last DEED", x.trial(5), 2, 0);
        x.undo(39);
        x.heat(1);
        refuses("trial(5) of 40", () -> x.trial(5), FULL);
        refuses("trial(0) of 40", () -> x.trial(0), STATE);
        court("i1091 w009 m120 w009 m009 x009 p009");
        asks("a WOMAN not GUILTY, CLEAN", x.trial(0), 1, 0);
        due("angry at the first", x.count(1), 13);
        asks("GUILTY and FOUL is well", x.trial(1), 0, 0);
        due("no anger behind FOUL", x.count(1), 13);
        asks("not GUILTY, does not COME", x.trial(2), 2, 1);
        due("no anger behind one who does not COME", x.count(1), 13);
        asks("CLEAN", x.trial(3), 1, 0);
        x.heat(5);
        x.heat(4);
        due("HEAT", x.count(1), 27);
        x.salve(4);
        x.salve(4);
        asks("CLEAN by 27", x.trial(4), 1, 0);
        due("30 at most", x.count(1), 30);
    }

    private void undoings() {
        promise(17);
        due("undo(0) without men", x.undo(0), 0);
        refuses("undo(1) without men", () -> x.undo(1), BAD);
        court("i1091 m009 m100 m199");
        x.heat(5);
        x.salve(1);
        long digest = x.digest();
        x.trial(0);
        x.heat(3);
        x.trial(1);
        due("undo(5)", x.undo(5), 0);
        refuses("undo(6)", () -> x.undo(6), BAD);
        refuses("undo(-1)", () -> x.undo(-1), BAD);
        due("undo(4)", x.undo(4), 1);
        due("who is TRIED", x.count(3), 1);
        due("HEAT", x.count(1), 21);
        due("undo(2)", x.undo(2), 2);
        due("digest()", x.digest(), digest);
        due("trial(0) once more", x.trial(0), 1);
        due("undo(0)", x.undo(0), 3);
        due("HEAT at first", x.count(1), 8);
        due("no SALVE", x.count(6), 0);
        due("nobody TRIED", x.count(3), 0);
        x.heat(-5);
        x.heat(-5);
        x.heat(5);
        due("undo of what was kept at 0", x.undo(2), 1);
        due("HEAT 0", x.count(1), 0);
    }

    private void keepings() {
        promise(18);
        refuses("keep(0) without men", () -> x.keep(0), STATE);
        refuses("keep(3) without men", () -> x.keep(3), BAD);
        court(SIX);
        due("keep(0)", x.keep(0), 0);
        x.heat(1);
        x.trial(0);
        due("keep(2)", x.keep(2), 2);
        due("kept COURTS", x.count(10), 2);
        x.undo(1);
        due("keep(2) anew", x.keep(2), 1);
        due("kept COURTS", x.count(10), 2);
        refuses("keep(3)", () -> x.keep(3), BAD);
        refuses("keep(-1)", () -> x.keep(-1), BAD);

        promise(19);
        finds("on(0) without men", () -> x.on(0), NOTHING);
        refuses("on(3)", () -> x.on(3), BAD);
        refuses("on(-1)", () -> x.on(-1), BAD);
        court(SIX);
        x.heat(1);
        x.salve(2);
        x.trial(4);
        x.keep(1);
        long digest = x.digest();
        finds("on(0)", () -> x.on(0), NOTHING);
        x.undo(0);
        x.lots(12, 99);
        due("on(1)", x.on(1), 3);
        due("digest()", x.digest(), digest);
        due("on(1) stays kept", x.count(10), 1);
        due("undo(2) behind it", x.undo(2), 1);
        due("nobody TRIED", x.count(3), 0);
        due("on(1) again", x.on(1), 3);
        due("digest() again", x.digest(), digest);
        fill(37);
        due("keep(0) of 40", x.keep(0), 40);
        x.undo(0);
        due("on(0) of 40", x.on(0), 40);
        due("on(1) at last", x.on(1), 3);
    }

    private void heats() {
        promise(20);
        refuses("comes() without men", () -> x.comes(), STATE);
        court("i1002 m000 m009 m139 x150 w009 m008");
        asks("comes()", x.comes(), 1 + 2 + 8 + 16 + 32, 2 + 16 + 32);
        x.heat(3);
        asks("comes() by 11", x.comes(), 1 + 2 + 8 + 32, 0);
        x.heat(-3);
        x.trial(1);
        asks("comes() of those not TRIED", x.comes(), 1 + 8 + 16 + 32, 16 + 32);
        court("i1001 m199 m009");
        asks("comes() without the first", x.comes(), 2, 2);

        promise(21);
        refuses("wrong(8) without men", () -> x.wrong(8), STATE);
        refuses("wrong(31) without men", () -> x.wrong(31), BAD);
        court("i1001 m109 m007 w009 m139 m129 m000");
        asks("wrong(8)", x.wrong(8), 4, 2);
        asks("wrong(0)", x.wrong(0), 2, 2);
        asks("wrong(9), the KING aside", x.wrong(9), 4, 2);
        asks("wrong(10)", x.wrong(10), 3, 0);
        asks("wrong(11)", x.wrong(11), 3, 0);
        asks("wrong(30)", x.wrong(30), 3, 0);
        x.trial(0);
        asks("wrong(8) of those not TRIED", x.wrong(8), 3, 1);
        x.salve(1);
        asks("wrong(9) by SALVE", x.wrong(9), 2, 1);
        refuses("wrong(31)", () -> x.wrong(31), BAD);
        refuses("wrong(-1)", () -> x.wrong(-1), BAD);

        promise(22);
        refuses("best() without men", () -> x.best(), STATE);
        court("i1001 m105 m109 m029");
        asks("best()", x.best(), 6, 1);
        x.trial(2);
        asks("best() of those not TRIED", x.best(), 10, 0);
        x.trial(0);
        x.trial(1);
        asks("best() of none", x.best(), 0, 0);
        court("i1001 m100 m131");
        asks("the first of the best", x.best(), 1, 0);
        court("i1991 x197");
        asks("best() of one CLEAN up to 30", x.best(), 0, 1);
        court("i1991 x196");
        asks("best() of one CLEAN up to 29", x.best(), 30, 0);

        heatSets();
    }

    private void heatSets() {
        promise(23);
        refuses("heats(0, 0) without men", () -> x.heats(0, 0), BAD);
        court("i1003 m004 w004 c004 m134 x009");
        due("CLEAN", x.heats(0, 1), 31);
        due("FOUL", x.heats(0, 0), ALL_HEATS - 31);
        due("none", x.heats(0, 2), 0);
        due("a WOMAN FOUL", x.heats(1, 0), 2047 - 31);
        due("a WOMAN does not COME", x.heats(1, 2), ALL_HEATS - 2047);
        due("a CLERK CLEAN", x.heats(2, 1), 7);
        due("a CLERK does not COME", x.heats(2, 2), ALL_HEATS - 2097151);
        due("one GUILTY never COMES", x.heats(3, 2), ALL_HEATS);
        x.salve(0);
        due("CLEAN by SALVE", x.heats(0, 1), 127);
        x.trial(0);
        due("TRIED or not", x.heats(0, 1), 127);
        refuses("heats(5, 0)", () -> x.heats(5, 0), BAD);
        refuses("heats(0, 3)", () -> x.heats(0, 3), BAD);
        refuses("heats(0, -1)", () -> x.heats(0, -1), BAD);

        promise(24);
        refuses("tells(8) without men", () -> x.tells(8), STATE);
        refuses("tells(31) without men", () -> x.tells(31), BAD);
        court("i1001 m109 m129 m009 x138 m139 m006");
        fraction("tells(8)", x.tells(8), 3, 4);
        fraction("tells(6)", x.tells(6), 3, 5);
        fraction("tells(10)", x.tells(10), 1, 1);
        fraction("tells(30) of nobody", x.tells(30), 0, 1);
        x.trial(0);
        fraction("tells(8) of those not TRIED", x.tells(8), 2, 3);
        x.trial(1);
        fraction("tells(6) in lowest terms", x.tells(6), 1, 3);
        x.undo(1);
        fraction("tells(6) in lowest terms", x.tells(6), 1, 2);
        refuses("tells(31)", () -> x.tells(31), BAD);
        refuses("tells(-1)", () -> x.tells(-1), BAD);
        court("i1001 m009 m001");
        fraction("tells(5) of none GUILTY", x.tells(5), 0, 1);
    }

    private void orders() {
        promise(25);
        refuses("order(0) without men", () -> x.order(0), STATE);
        refuses("order(6) without men", () -> x.order(6), BAD);
        court("i1001 m108 m009 m129");
        due("order(1)", x.order(1), 0);
        holds(1, 1, 0, 2);
        due("HEAT stays", x.count(1), 8);
        due("nobody TRIED", x.count(3), 0);
        x.trial(1);
        due("order(1) of those left", x.order(1), 0);
        holds(1, 0, 2);
        x.undo(0);
        x.trial(0);
        due("order(1) behind one told WRONGLY", x.order(1), 1);
        holds(1, 1, 2);
        x.trial(2);
        x.trial(1);
        due("order(1) of none", x.order(1), 0);
        holds(1);
        court("i1006 m009 m009 m009");
        due("the first by numbers", x.order(5), 0);
        holds(5, 0, 1, 2);
        court("i1001 m000 m000 m000 m000 m000 m000");
        due("all told WRONGLY", x.order(1), 6);
        holds(1, 0, 1, 2, 3, 4, 5);
        court("i1003 m009 m009 m109");
        due("the KING not yet angry", x.order(1), 1);
        holds(1, 0, 1, 2);
        refuses("order(6)", () -> x.order(6), BAD);
        refuses("order(-1)", () -> x.order(-1), BAD);
        court("i1002 m109 m008 m129 m009");
        x.trial(3);
        due("CLEAN ones of before count for the KING", x.order(1), 0);
        holds(1, 1, 0, 2);

        promise(26);
        refuses("tried(0) without men", () -> x.tried(0), STATE);
        refuses("tried(6) without men", () -> x.tried(6), BAD);
        court("i1002 m109 m009 m129 m004");
        finds("tried(0) without a row", () -> x.tried(0), NOTHING);
        row(0, 0, 1, 2, 3);
        asks("tried(0)", x.tried(0), 2, 13);
        row(0, 1, 3, 0, 2);
        asks("tried(0) in another order", x.tried(0), 2, 13);
        row(0, 2);
        asks("tried(0) of some", x.tried(0), 1, 8);
        row(0, 2, 1);
        asks("tried(0) of two CLEAN", x.tried(0), 1, 13);
        row(0, 3, 1);
        asks("tried(0) of one FOUL, one CLEAN", x.tried(0), 1, 8);
        row(0);
        asks("tried(0) of none", x.tried(0), 0, 8);
        due("HEAT stays", x.count(1), 8);
        x.trial(0);
        row(0, 1, 2);
        asks("tried(0) behind one told CLEAN", x.tried(0), 0, 13);
        row(0, 1, 0);
        finds("tried(0) of one TRIED", () -> x.tried(0), UNLIKE);
        row(0, 1, 1);
        finds("tried(0) of one twice", () -> x.tried(0), UNLIKE);
        row(0, 4);
        finds("tried(0) of no MAN", () -> x.tried(0), UNLIKE);
        row(0, -1);
        finds("tried(0) of a number below 0", () -> x.tried(0), UNLIKE);
        row(0, 9, 9, 9, 9, 9, 9, 9);
        finds("tried(0) of seven", () -> x.tried(0), SIZE);
        row(0, 9, 9, 9, 9, 9, 9);
        finds("tried(0) of six", () -> x.tried(0), UNLIKE);
        refuses("tried(6)", () -> x.tried(6), BAD);

        leasts();
    }

    private void leasts() {
        promise(27);
        refuses("least() without men", () -> x.least(), STATE);
        court("i1001 m003 m005 m100 w009 m007");
        asks("least()", x.least(), 3 + 2 + 1, 3);
        x.salve(0);
        asks("least() behind one SALVE", x.least(), 2 + 2 + 1, 3);
        x.salve(4);
        asks("least() of two", x.least(), 4, 2);
        x.heat(1);
        asks("least() by 9", x.least(), 2 + 2, 2);
        x.heat(1);
        due("NONE, as more than 3 in all would be due", x.least(), NONE);
        due("asked() behind NONE", x.asked(), 2);
        x.trial(0);
        asks("least() without one TRIED", x.least(), 3 + 1 + 1, 3);
        x.heat(-5);
        x.heat(-5);
        asks("least() of nobody who needs", x.least(), 0, 0);
        court("i1001 w000 m139 m199 m100");
        x.heat(3);
        asks("least() of nobody who COMES and is not GUILTY", x.least(), 0, 0);
    }

    private void howHot() {
        promise(28);
        refuses("fits(0) without men", () -> x.fits(0), STATE);
        refuses("fits(6) without men", () -> x.fits(6), BAD);
        court("i1003 m005 w003 c009 m134");
        finds("fits(0) without a row", () -> x.fits(0), NOTHING);
        row(0);
        asks("fits(0) of none", x.fits(0), ALL_HEATS, 31);
        row(0, 0, 1);
        asks("fits(0)", x.fits(0), 63, 6);
        row(0, 0, 1, 1, 0);
        asks("fits(0) of two pairs", x.fits(0), 63 - 15, 2);
        row(0, 0, 1, 1, 2);
        asks("fits(0) of no HEAT", x.fits(0), 0, 0);
        row(0, 0, 0, 0, 1);
        asks("fits(0) of one twice", x.fits(0), 0, 0);
        row(0, 1, 2, 2, 0);
        asks("fits(0) of 11 to 20", x.fits(0), 2097151 - 2047, 10);
        x.trial(0);
        x.salve(1);
        row(0, 0, 1, 1, 0);
        asks("fits(0), TRIED or not, by SALVE", x.fits(0), 0, 0);
        row(0, 0, 0, 1, 1);
        asks("fits(0) only not so", x.fits(0), 0, 0);
        row(0, 0);
        finds("fits(0) of no pair", () -> x.fits(0), SIZE);
        row(0, 9, 9, 9);
        finds("fits(0) of no pairs, no MEN", () -> x.fits(0), SIZE);
        row(0, 1, 0);
        asks("fits(0) of a row that was longer", x.fits(0), 2047 - 63, 5);
        row(0, 4, 0);
        finds("fits(0) of no MAN", () -> x.fits(0), UNLIKE);
        row(0, -1, 0);
        finds("fits(0) of a MAN below 0", () -> x.fits(0), UNLIKE);
        row(0, 0, 0, 0, 3);
        finds("fits(0) of 3", () -> x.fits(0), UNLIKE);
        row(0, 0, -1);
        finds("fits(0) of -1", () -> x.fits(0), UNLIKE);
        refuses("fits(-1)", () -> x.fits(-1), BAD);

        asking();
        handsAndKinds();
        duels();
    }

    private void asking() {
        promise(29);
        refuses("ask(0) without men", () -> x.ask(0), STATE);
        refuses("ask(6) without men", () -> x.ask(6), BAD);
        court("i1003 m134 m005 w003 c008");
        finds("ask(0) without a row", () -> x.ask(0), NOTHING);
        row(0);
        asks("ask(0)", x.ask(0), 3, 16);
        row(0, 1, 1);
        asks("ask(0) of 0 to 5", x.ask(0), 2, 4);
        row(0, 1, 1, 2, 0);
        asks("ask(0) of 4, 5", x.ask(0), 3, 1);
        row(0, 1, 1, 2, 0, 3, 1);
        asks("ask(0) of 4: the first", x.ask(0), 0, 1);
        x.trial(2);
        row(0, 1, 1);
        asks("ask(0), TRIED or not", x.ask(0), 2, 4);
        row(0, 0, 1);
        x.man(0, 3);
        due("ask(0) of no HEAT", x.ask(0), NONE);
        due("asked() behind NONE", x.asked(), 4);
        row(0, 1);
        finds("ask(0) of no pair", () -> x.ask(0), SIZE);
        row(0, 4, 0);
        finds("ask(0) of no MAN", () -> x.ask(0), UNLIKE);
        row(0, 0, 3);
        finds("ask(0) of 3", () -> x.ask(0), UNLIKE);
        refuses("ask(-1)", () -> x.ask(-1), BAD);
        row(0);
        court("i1003 m134 m005 m134");
        asks("ask(0): the second", x.ask(0), 1, 25);
        court("i1003 m005 m134");
        asks("ask(0): the first of fewer MEN than before", x.ask(0), 0, 25);
        court("i1003 c009 m134 m134");
        asks("ask(0): the first of all", x.ask(0), 0, 16);
        court("i1003 m134");
        asks("ask(0) of one who tells nothing", x.ask(0), 0, 31);
    }

    private void handsAndKinds() {
        promise(30);
        x.row(0, 0);
        refuses("hands(0, 0) without men", () -> x.hands(0, 0), BAD);
        court("i1013 m005 c005 x155 m135");
        finds("hands(0, 1) without a row", () -> x.hands(0, 1), NOTHING);
        due("hands(0, 0) of none", x.hands(0, 0), 1023);
        row(0, 6, 1, 8, 0);
        due("a MAN of 5, 6", x.hands(0, 0), 32 + 64);
        row(0, 3, 1, 4, 0);
        due("a CLERK of 4, 5", x.hands(1, 0), 16 + 32);
        row(0, 9, 1);
        due("a PROXY of 3 or more", x.hands(2, 0), 1023 - 7);
        due("one who does not COME", x.hands(3, 0), 0);
        row(0, 9, 2, 30, 2);
        due("one who does not COME, told so", x.hands(3, 0), 1023);
        x.salve(2);
        row(0, 9, 1);
        due("a PROXY by SALVE", x.hands(2, 0), 1023 - 1);
        row(0, 9);
        finds("hands(0, 0) of no pair", () -> x.hands(0, 0), SIZE);
        row(0, 31, 0);
        finds("hands(0, 0) of HEAT 31", () -> x.hands(0, 0), UNLIKE);
        row(0, -1, 0);
        finds("hands(0, 0) of HEAT -1", () -> x.hands(0, 0), UNLIKE);
        row(0, 30, 3);
        finds("hands(0, 0) of 3", () -> x.hands(0, 0), UNLIKE);
        refuses("hands(4, 0)", () -> x.hands(4, 0), BAD);
        refuses("hands(0, 6)", () -> x.hands(0, 6), BAD);

        promise(31);
        x.row(0, 0);
        refuses("kinds(0, 0) without men", () -> x.kinds(0, 0), BAD);
        court("i1343 m024 w154 x100");
        finds("kinds(0, 1) without a row", () -> x.kinds(0, 1), NOTHING);
        due("kinds(0, 0) of none", x.kinds(0, 0), 63);
        row(0, 10, 1, 14, 0);
        due("kinds(0, 0)", x.kinds(0, 0), 2 + 16 + 32);
        row(0, 11, 2);
        due("a WOMAN alone", x.kinds(0, 0), 8);
        row(0, 21, 2);
        due("a WOMAN, CLERKS", x.kinds(0, 0), 4 + 8 + 32);
        due("all but a PROXY", x.kinds(1, 0), 63 - 16);
        row(0, 4, 1, 9, 1);
        due("a MAN of HAND 0", x.kinds(2, 0), 16 + 32);
        x.salve(2);
        x.salve(2);
        due("by SALVE", x.kinds(2, 0), 2 + 16 + 32);
        row(0, 9);
        finds("kinds(0, 0) of no pair", () -> x.kinds(0, 0), SIZE);
        row(0, 31, 0);
        finds("kinds(0, 0) of HEAT 31", () -> x.kinds(0, 0), UNLIKE);
        row(0, 30, -1);
        finds("kinds(0, 0) of -1", () -> x.kinds(0, 0), UNLIKE);
        refuses("kinds(3, 0)", () -> x.kinds(3, 0), BAD);
        refuses("kinds(0, -1)", () -> x.kinds(0, -1), BAD);
    }

    private void duels() {
        promise(32);
        refuses("duel(0) without men", () -> x.duel(0), STATE);
        refuses("duel(7) without men", () -> x.duel(7), BAD);
        court("i1006 m005 m007 m009 w001 m130");
        due("duel(0)", x.duel(0), 3);
        due("duel(1): to 11, no WOMAN, or 5", x.duel(1), 1);
        due("duel(2)", x.duel(2), 3);
        due("duel(3)", x.duel(3), 1);
        due("duel(6)", x.duel(6), 3);
        x.trial(3);
        due("duel(1) of those not TRIED", x.duel(1), 0);
        due("HEAT stays", x.count(1), 8);
        refuses("duel(7)", () -> x.duel(7), BAD);
        refuses("duel(-1)", () -> x.duel(-1), BAD);
        court("i1006 m001 m000");
        x.heat(-5);
        x.heat(-3);
        due("no turn", x.duel(0), 0);
        due("kept to 0", x.duel(1), 0);
        due("the king from 0", x.duel(2), 2);
        x.heat(5);
        due("the priest to 2", x.duel(1), 2);
        due("one king between two priests", x.duel(3), 2);
    }

    private void chances() {
        promise(33);
        refuses("odds(0) without men", () -> x.odds(0), STATE);
        refuses("odds(13) without men", () -> x.odds(13), BAD);
        court("i1023 m008 m006 m009 m100 m139 w003");
        fraction("odds(6): one is FOUL", x.odds(6), 0, 1);
        x.salve(5);
        x.salve(5);
        fraction("odds(6)", x.odds(6), 1, 16);
        fraction("odds(4)", x.odds(4), 16, 81);
        fraction("odds(0)", x.odds(0), 1, 1);
        fraction("odds(12)", x.odds(12), 0, 1);
        x.trial(1);
        fraction("odds(4) of those not TRIED", x.odds(4), 8, 27);
        x.heat(3);
        fraction("odds(4) of those who COME", x.odds(4), 0, 1);
        x.salve(0);
        x.salve(2);
        fraction("odds(3) by SALVE", x.odds(3), 9, 16);
        refuses("odds(13)", () -> x.odds(13), BAD);
        refuses("odds(-1)", () -> x.odds(-1), BAD);
        court("i1033 m100 m139 m009");
        fraction("odds(5): 3 more at most heals", x.odds(5), 1, 1);
        x.trial(2);
        fraction("odds(5) of nobody", x.odds(5), 1, 1);

        promise(34);
        refuses("mid(0) without men", () -> x.mid(0), STATE);
        refuses("mid(13) without men", () -> x.mid(13), BAD);
        court("i1033 m008 m106 m009 m000 m139 x159");
        fraction("mid(0)", x.mid(0), 4, 1);
        fraction("mid(6)", x.mid(6), 7, 2);
        fraction("mid(5)", x.mid(5), 43, 12);
        fraction("mid(12)", x.mid(12), 3, 1);
        x.trial(0);
        fraction("mid(6) of those not TRIED", x.mid(6), 5, 2);
        x.heat(5);
        fraction("mid(1)", x.mid(1), 1, 1);
        x.heat(1);
        x.heat(1);
        fraction("mid(1) of one who may be FOUL", x.mid(1), 11, 12);
        refuses("mid(13)", () -> x.mid(13), BAD);
        refuses("mid(-1)", () -> x.mid(-1), BAD);
        court("i1003 m000 m139");
        fraction("mid(6) of none CLEAN", x.mid(6), 0, 1);

        lots();
    }

    private void lots() {
        promise(35);
        refuses("lots(1, 1) without men", () -> x.lots(1, 1), STATE);
        refuses("lots(0, 1) without men", () -> x.lots(0, 1), BAD);
        court("i1003 m105 m109");
        // 48271 modulo 3 is 1; by 8, cut: 6033, modulo 2 is 1: the second is tried
        due("lots(1, 1)", x.lots(1, 1), 1);
        due("who is TRIED", x.count(3), 2);
        // 182605794 modulo 3 is 0; by 8, cut: 22825724, modulo 11 is 9: HEAT is 4 more
        due("lots(1, 48271)", x.lots(1, 48271), 0);
        due("HEAT", x.count(1), 12);
        due("DEEDS", x.count(2), 2);
        x.undo(0);
        due("lots(2, 1): both", x.lots(2, 1), 1);
        due("HEAT", x.count(1), 12);
        due("lots(2, 1) once more: SALVE for one TRIED", x.lots(2, 1), 0);
        due("SALVE", x.count(6), 1);
        x.lots(1, 1);
        x.lots(1, 1);
        due("SALVE", x.count(6), 3);
        due("lots(1, 1) to one who has 3: a DEED, nothing", x.lots(1, 1), 0);
        due("SALVE", x.count(6), 3);
        due("DEEDS", x.count(2), 7);
        due("told WRONGLY", x.count(5), 1);
        x.undo(0);
        lotsByHand();
        due("lots(20, 7)", x.lots(20, 7) >= 0 ? 1 : 0, 1);
        refuses("lots(0, 1)", () -> x.lots(0, 1), BAD);
        refuses("lots(21, 1)", () -> x.lots(21, 1), BAD);
        refuses("lots(1, 0)", () -> x.lots(1, 0), BAD);
        refuses("lots(1, 2147483647)", () -> x.lots(1, 2147483647), BAD);
        refuses("lots(1, -5)", () -> x.lots(1, -5), BAD);
        due("lots(19, most)", x.lots(19, 2147483646) >= 0 ? 1 : 0, 1);
        refuses("lots(2, 1) of 39", () -> x.lots(2, 1), FULL);
        due("lots(1, 1) of 39", x.lots(1, 1), 0);
        refuses("lots(1, 1) of 40", () -> x.lots(1, 1), FULL);
        refuses("lots(21, 1) of 40", () -> x.lots(21, 1), BAD);
        due("DEEDS", x.count(2), 40);
    }

    /** Who is tried and has salve by the numbers themselves. */
    private void lotsByHand() {
        for (int seed = 1; seed <= 40; seed++) {
            court(SIX);
            long it = seed;
            int tried = 0;
            int[] salve = new int[6];
            for (int k = 0; k < 20; k++) {
                it = it * 48271L % 2147483647L;
                int i = (int) (it / 8 % 6);
                if (it % 3 != 0 && (tried >> i) % 2 == 0) {
                    tried += 1 << i;
                } else if (it % 3 != 0) {
                    salve[i] = Math.min(3, salve[i] + 1);
                }
            }
            x.lots(20, seed);
            due("who is TRIED by seed " + seed, x.count(3), tried);
            for (int i = 0; i < 6; i++) {
                asks("SALVE by seed " + seed, x.man(i, 7), 1, salve[i]);
            }
        }
        x.undo(0);
    }

    private void told() {
        promise(36);
        due("asked() at first", x.asked(), 0);
        court(SIX);
        x.man(0, 2);
        due("asked()", x.asked(), 2);
        x.mark(1, 1);
        x.heat(1);
        x.heats(0, 1);
        x.tells(3);
        x.order(0);
        x.duel(2);
        x.count(0);
        x.digest();
        x.mid(3);
        x.undo(0);
        due("asked() behind calls that don't tell by it", x.asked(), 2);

        promise(37);
        due("upper() at first", x.upper(), 0);
        court(SIX);
        x.tells(8);
        due("upper()", x.upper(), 2);
        x.tells(-1);
        x.odds(13);
        x.mid(13);
        due("upper() behind refusals", x.upper(), 2);

        promise(38);
        due("lower() at first", x.lower(), 1);
        court(SIX);
        x.tells(8);
        due("lower()", x.lower(), 5);
        x.wrong(8);
        due("lower() stays", x.lower(), 5);

        counts();

        promise(40);
        due("finding() at first", x.finding(), 0);
        x.at(0, 0);
        due("finding()", x.finding(), NOTHING);
        x.row(0, -1);
        x.row(0, 41);
        x.heat(1);
        due("finding() is the latest", x.finding(), SIZE);
        x.row(0, 0);
        x.at(0, 0);
        due("finding()", x.finding(), BEYOND);

        promise(41);
        for (int f = 1; f <= 5; f++) {
            due("findings at first", x.findings(f), 0);
        }
        x.at(0, 0);
        x.at(1, 0);
        x.row(0, -1);
        due("findings(1)", x.findings(1), 2);
        due("findings(5)", x.findings(5), 1);
        due("findings(0)", x.findings(0), BAD);
        due("findings(6)", x.findings(6), BAD);
        due("findings(-1)", x.findings(-1), BAD);

        digests();
    }

    private void counts() {
        promise(39);
        court("i1001 p106 m009 x159 w000");
        x.row(0, 0);
        x.row(3, 1);
        x.row(3, 2);
        x.text(0, 0);
        x.salve(3);
        x.salve(0);
        x.salve(3);
        x.trial(0);
        x.keep(0);
        x.trial(3);
        x.keep(2);
        int[] due = {4, 13, 5, 9, 1, 2, 3, 2, 2, 2, 2};
        for (int what = 0; what <= 10; what++) {
            due("count(" + what + ")", x.count(what), due[what]);
        }
        due("count(11)", x.count(11), BAD);
        due("count(-1)", x.count(-1), BAD);
    }

    private long digestOf(long... values) {
        long h = 17;
        for (long v : values) {
            h = 31 * h + v;
        }
        return h;
    }

    private void digests() {
        promise(42);
        long[] bare = {0, 8, 0, 0, 0, 0, 0, 0, 0, 0, 0, -1, -1, -1, -1, -1, -1, -1, -1, -1, -1, -1, -1, -1};
        due("digest() at first", x.digest(), digestOf(bare));
        row(1, 5, -6);
        x.text(2, 1);
        x.put(2, 0, 200);
        due("digest() of a row and a text", x.digest(),
                digestOf(0, 8, 0, 0, 0, 0, 0, 0, 1, 1, 0, -1, -1, -1, -1, 2, 5, -6, -1, -1, -1, -1,
                        -1, -1, 1, -56, -1));
        promise(42);
        text(0, "i1091m123");
        x.court(0);
        x.trial(0);
        x.keep(1);
        x.man(0, 3);
        due("digest() of a court", x.digest(),
                digestOf(1, 13, 1, 1, 1, 1, 0, 0, 0, 1, 1, 0, 1, 2, 3, 10, 1, 0, 0, 1, -1, 1, -1,
                        -1, -1, -1, -1, -1, -1, 9, 'i', '1', '0', '9', '1', 'm', '1', '2', '3', -1, -1, -1));
        due("asked() stays", x.asked(), 3);
    }
}
