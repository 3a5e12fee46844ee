/** The boundary cases that promises 14 to 19 name (deeds, kept courts), a test a sentence. */
final class DeedsEdgesTest extends Sentences {
    private DeedsEdgesTest() {
        super("DeedsEdgesTest");
    }

    public static void main(String[] args) {
        DeedsEdgesTest test = new DeedsEdgesTest();
        test.heat();
        test.salve();
        test.trial();
        test.undo();
        test.keep();
        test.on();
        test.allTested(14, 19);
        test.check.end();
    }

    private void heat() {
        says(14, "HEAT is by more or less (-5 .. 5, not 0; kept 0 to 30): HEAT then.");
        court(SIX);
        for (int by = 1; by <= 5; by++) {
            due("heat(" + by + ")", x.heat(by), 8 + by);
            due("heat(-" + by + ")", x.heat(-by), 8);
        }
        due("heat(-5)", x.heat(-5), 3);
        due("heat(-3) to 0", x.heat(-3), 0);
        due("heat(-1) kept at 0", x.heat(-1), 0);
        due("heat(2) from 0, as nothing is owed", x.heat(2), 2);
        due("heat(-5) kept to 0", x.heat(-5), 0);
        due("DEEDS, those that changed nothing too", x.count(2), 15);
        heatTo(28);
        due("heat(2) to 30", x.heat(2), 30);
        due("heat(5) kept at 30", x.heat(5), 30);
        due("heat(-2) from 30", x.heat(-2), 28);
        due("heat(5) kept to 30", x.heat(5), 30);
        due("HEAT", x.count(1), 30);

        says(14, "BAD;");
        refuses("heat(0) without MEN", () -> x.heat(0), BAD);
        badBeside(-5, 5, "heat(by) without MEN", by -> x.heat(by));
        court(SIX);
        refuses("heat(0)", () -> x.heat(0), BAD);
        badBeside(-5, 5, "heat(by)", by -> x.heat(by));

        says(14, "STATE: no MEN;");
        refuses("heat(1)", () -> x.heat(1), STATE);
        refuses("heat(-5)", () -> x.heat(-5), STATE);
        text(0, "i1001");
        x.court(0);
        refuses("heat(1) behind a court() refused", () -> x.heat(1), STATE);

        says(14, "FULL: 40 DEEDS.");
        court(SIX);
        fill(39);
        due("the 40th", x.heat(1), 10);
        for (int by : new int[] {-5, -1, 1, 5}) {
            refuses("the 41st", () -> x.heat(by), FULL);
        }
        x.undo(39);
        due("the 40th once more", x.heat(5), 14);

        says(14, "(FULL last.)");
        court(SIX);
        fill(40);
        refuses("heat(0)", () -> x.heat(0), BAD);
        badBeside(-5, 5, "heat(by)", by -> x.heat(by));
    }

    private void salve() {
        says(15, "One has one more of SALVE: how much then.");
        court("i1011m000m000");
        for (int k = 1; k <= 3; k++) {
            due("SALVE of the second", x.salve(1), k);
            asks("man(1, 7)", x.man(1, 7), 1, k);
            due("SALVE of all", x.count(6), k);
        }
        asks("SALVE of the first", x.man(0, 7), 1, 0);
        asks("CLEAN by what HEALS, 1, and 6, as 8 is more", x.man(1, 6), 1, 0);
        x.heat(-1);
        asks("CLEAN by what HEALS, 1, and 6, as 7 is not", x.man(1, 6), 1, 1);

        says(15, "BAD;");
        refuses("salve(0) without MEN", () -> x.salve(0), BAD);
        court("i1001m000");
        badBeside(0, 0, "salve(i) of one", i -> x.salve(i));
        court(SIX);
        badBeside(0, 5, "salve(i) of six", i -> x.salve(i));

        says(15, "STATE: he has 3, or is TRIED;");
        court("i1001 m000 m000 m199 m009");
        for (int k = 0; k < 3; k++) {
            x.salve(0);
        }
        refuses("salve(0) of one who has 3", () -> x.salve(0), STATE);
        x.trial(0);
        refuses("salve(0) of one who has 3 and is TRIED", () -> x.salve(0), STATE);
        x.trial(1);
        refuses("salve(1) of one told FOUL", () -> x.salve(1), STATE);
        x.trial(2);
        refuses("salve(2) of one who did not COME", () -> x.salve(2), STATE);
        x.trial(3);
        refuses("salve(3) of one told CLEAN", () -> x.salve(3), STATE);
        x.undo(2);
        due("salve(0) of one who has 2", x.salve(0), 3);

        says(15, "FULL.");
        court(SIX);
        fill(39);
        due("the 40th", x.salve(5), 1);
        refuses("the 41st of another", () -> x.salve(0), FULL);
        refuses("the 41st of the same", () -> x.salve(5), FULL);

        says(15, "(FULL last.)");
        court(SIX);
        for (int k = 0; k < 3; k++) {
            x.salve(0);
        }
        x.trial(1);
        fill(36);
        refuses("salve(6)", () -> x.salve(6), BAD);
        refuses("salve(0) of one who has 3", () -> x.salve(0), STATE);
        refuses("salve(1) of one TRIED", () -> x.salve(1), STATE);
        refuses("salve(2)", () -> x.salve(2), FULL);
    }

    private void trial() {
        says(16, "A TRIAL: 1, 0, 2; whether it told him WRONGLY by asked() (1, 0).");
        court("i1036 m005 m105 m004 m104 w005 m139");
        asks("not GUILTY, CLEAN by as much as HEALS", x.trial(0), 1, 0);
        asks("GUILTY, CLEAN", x.trial(1), 1, 1);
        asks("not GUILTY, FOUL by one more", x.trial(2), 0, 1);
        asks("GUILTY, FOUL", x.trial(3), 0, 0);
        heatTo(11);
        asks("not GUILTY, does not COME", x.trial(4), 2, 1);
        asks("GUILTY, does not COME", x.trial(5), 2, 0);
        due("TRIED", x.count(3), 63);
        due("told CLEAN", x.count(4), 2);
        due("told WRONGLY", x.count(5), 3);

        says(16, "BAD;");
        refuses("trial(0) without MEN", () -> x.trial(0), BAD);
        court("i1001m000");
        badBeside(0, 0, "trial(i) of one", i -> x.trial(i));
        court(SIX);
        badBeside(0, 5, "trial(i) of six", i -> x.trial(i));

        says(16, "STATE: he is TRIED;");
        court("i1036 m005 m004 m139");
        for (int i = 0; i < 3; i++) {
            int man = i;
            x.trial(i);
            refuses("trial(" + i + ") again", () -> x.trial(man), STATE);
        }
        x.undo(1);
        asks("trial(1), undone", x.trial(1), 0, 1);
        refuses("trial(0), not undone", () -> x.trial(0), STATE);

        says(16, "FULL.");
        court("i1036 m005 m004 m139");
        fill(39);
        x.undo(38);
        x.salve(1);
        asks("the 40th", x.trial(1), 1, 0);
        refuses("the 41st", () -> x.trial(0), FULL);
        refuses("the 41st of one who does not COME", () -> x.trial(2), FULL);

        says(16, "(FULL last.)");
        court("i1036 m005 m004 m139");
        x.trial(0);
        fill(39);
        refuses("trial(3)", () -> x.trial(3), BAD);
        refuses("trial(0)", () -> x.trial(0), STATE);
        refuses("trial(1)", () -> x.trial(1), FULL);
    }

    private void undo() {
        says(17, "DEEDS from number n on (n 0 to how many there are: then 0) are undone: how many.");
        due("undo(0) without MEN", x.undo(0), 0);
        court("i1991 x059 m100 m199");
        due("undo(0) of none", x.undo(0), 0);
        long[] digests = new long[41];
        for (int n = 0; n < 40; n++) {
            digests[n] = x.digest();
            due("DEED " + n, oneDeed(n), 1);
        }
        digests[40] = x.digest();
        leaves("undo(40) of 40", () -> x.undo(40), 0);
        for (int n = 39; n >= 35; n--) {
            due("undo(" + n + ") of one more", x.undo(n), 1);
            due("digest()", x.digest(), digests[n]);
        }
        due("undo(3) of 35", x.undo(3), 32);
        due("digest()", x.digest(), digests[3]);
        leaves("undo(3) of 3", () -> x.undo(3), 0);
        due("undo(0) of 3", x.undo(0), 3);
        due("digest()", x.digest(), digests[0]);
        heatTo(0);
        x.heat(-5);
        x.heat(2);
        x.undo(3);
        due("HEAT as it was before what was kept at 0", x.count(1), 0);
        x.undo(0);
        heatTo(28);
        x.trial(0);
        due("HEAT of the angry KING, 30 at most", x.count(1), 30);
        x.undo(4);
        due("HEAT as it was", x.count(1), 28);
        due("nobody TRIED", x.count(3), 0);

        says(17, "BAD.");
        badBeside(0, 0, "undo(n) without MEN", n -> x.undo(n));
        court(SIX);
        badBeside(0, 0, "undo(n) of none", n -> x.undo(n));
        fill(40);
        badBeside(0, 40, "undo(n) of 40", n -> x.undo(n));
        x.undo(7);
        badBeside(0, 7, "undo(n) of 7", n -> x.undo(n));
    }

    /** Deeds of each kind by turns, some of which change nothing but how many there are. */
    private int oneDeed(int n) {
        switch (n) {
            case 1:
            case 2:
                return x.salve(1) > 0 ? 1 : 0;
            case 5:
                return x.trial(0) == 1 ? 1 : 0;
            case 9:
                return x.trial(2) == 2 ? 1 : 0;
            case 38:
                return x.lots(1, n) >= 0 ? 1 : 0;
            default:
                return x.heat(n % 3 == 0 ? -4 : 5) >= 0 ? 1 : 0;
        }
    }

    private void keep() {
        says(18, "The COURT (as it is, DEEDS) is kept in a place (0 .. 2): how many DEEDS.");
        court("i1006m000");
        due("keep(0) of none", x.keep(0), 0);
        x.heat(5);
        due("keep(1) of one", x.keep(1), 1);
        fill(39);
        due("keep(2) of 40", x.keep(2), 40);
        due("kept COURTS", x.count(10), 3);
        x.undo(20);
        due("keep(2) anew", x.keep(2), 20);
        due("kept COURTS, none more", x.count(10), 3);
        due("DEEDS stay", x.count(2), 20);
        due("on(0), kept first", x.on(0), 0);
        due("HEAT", x.count(1), 8);
        due("on(1), kept second", x.on(1), 1);
        due("HEAT", x.count(1), 13);
        due("on(2), kept anew", x.on(2), 20);

        says(18, "BAD;");
        badBeside(0, 2, "keep(k) without MEN", k -> x.keep(k));
        court(SIX);
        badBeside(0, 2, "keep(k)", k -> x.keep(k));

        says(18, "STATE: no MEN.");
        for (int k = 0; k <= 2; k++) {
            int place = k;
            refuses("keep(" + k + ")", () -> x.keep(place), STATE);
        }
    }

    private void on() {
        says(19, "The COURT is as it was kept: how many DEEDS.");
        court("i1991 m009 m100 m199 x009");
        x.salve(1);
        x.trial(0);
        x.heat(-3);
        x.keep(0);
        x.keep(1);
        long digest = x.digest();
        x.trial(2);
        x.salve(3);
        due("on(0)", x.on(0), 3);
        due("digest()", x.digest(), digest);
        x.undo(0);
        due("on(0) behind undo()", x.on(0), 3);
        due("digest()", x.digest(), digest);
        x.undo(1);
        x.heat(5);
        x.heat(5);
        due("on(1), kept in another place", x.on(1), 3);
        due("digest()", x.digest(), digest);
        due("undo(2) behind on()", x.undo(2), 1);
        due("HEAT", x.count(1), 13);
        due("who is TRIED", x.count(3), 1);
        due("on(1) once more", x.on(1), 3);
        x.undo(0);
        fill(40);
        x.keep(2);
        due("on(0)", x.on(0), 3);
        due("on(2) of 40", x.on(2), 40);
        refuses("heat(1) behind it", () -> x.heat(1), FULL);
        due("on(1)", x.on(1), 3);
        due("heat(1) behind it", x.heat(1), 11);
        x.undo(0);
        x.keep(0);
        x.heat(1);
        due("on(0) of none", x.on(0), 0);
        due("HEAT", x.count(1), 8);

        says(19, "BAD;");
        badBeside(0, 2, "on(k) without MEN", k -> x.on(k));
        court(SIX);
        badBeside(0, 2, "on(k)", k -> x.on(k));

        says(19, "NOTHING.");
        finds("on(0) without MEN", () -> x.on(0), NOTHING);
        court(SIX);
        x.keep(1);
        finds("on(0)", () -> x.on(0), NOTHING);
        finds("on(2)", () -> x.on(2), NOTHING);
        x.court(3);
        finds("on(1) behind court()", () -> x.on(1), NOTHING);
    }
}
