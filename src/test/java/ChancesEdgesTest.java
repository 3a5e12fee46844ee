import java.math.BigInteger;
import java.util.Map;
import java.util.TreeMap;
import java.util.function.IntSupplier;
import java.util.function.LongSupplier;

/** The boundary cases that promises 32 to 42 name (turns, chances, lots, what is told), a test a sentence. */
final class ChancesEdgesTest extends Sentences {
    private static final long MODULUS = 2147483647L, FACTOR = 48271L;
    private static final int MOST_SEED = 2147483646;

    private ChancesEdgesTest() {
        super("ChancesEdgesTest");
    }

    public static void main(String[] args) {
        ChancesEdgesTest test = new ChancesEdgesTest();
        test.duel();
        test.odds();
        test.mid();
        test.lots();
        test.lotsRefused();
        test.asked();
        test.fractions();
        test.count();
        test.findings();
        test.digest();
        test.allTested(32, 42);
        test.check.end();
    }

    private void tryAll() {
        for (int i = 0; i < x.count(0); i++) {
            x.trial(i);
        }
    }

    // ---- turns, chances

    private void duels(String what, int... due) {
        for (int n = 0; n < due.length; n++) {
            int turns = n;
            leaves("duel(" + n + ") " + what, () -> x.duel(turns), due[n]);
        }
    }

    private void duel() {
        says(32, "By n (0 .. 6) turns in all the priest, then the king makes HEAT up to 3 more or less (or leaves it; "
                + "kept 0 to 30), the priest first, wanting few FOUL of those not TRIED who COME at last, the king many: "
                + "how many.");
        court("i1006 m004 m005 m007 m008 m009 m130");
        duels("from 8", 3, 1, 3, 1, 3, 1, 3);
        heatTo(0);
        duels("kept to 0", 0, 0, 0, 0, 0, 0, 0);
        court("i1006 m000 m001 m002 m003 m009 m130");
        heatTo(0);
        duels("from 0: the king to 3", 0, 0, 3, 0, 3, 0, 3);
        x.trial(5);
        x.heat(2);
        x.trial(1);
        duels("from 2, not of one TRIED", 1, 0, 2, 0, 2, 0, 2);
        court("i1991 x196");
        heatTo(30);
        duels("from 30", 1, 0, 1, 0, 1, 0, 1);
        heatTo(29);
        duels("kept to 30", 0, 0, 0, 0, 0, 0, 0);
        court("i1006 w009");
        heatTo(10);
        duels("from 10: the king leaves it", 1, 0, 1, 0, 1, 0, 1);
        court("i1006 w000 w000 p008");
        heatTo(11);
        duels("from 11: the priest leaves it", 0, 0);
        heatTo(30);
        court("i1006 m000 m000 m000 m000 m000 x000");
        duels("of six", 6, 5, 6, 5, 6, 5, 6);
        tryAll();
        duels("of all TRIED", 0, 0, 0, 0, 0, 0, 0);

        says(32, "BAD;");
        badBeside(0, 6, "duel() without MEN", n -> x.duel(n));
        court(SIX);
        badBeside(0, 6, "duel()", n -> x.duel(n));
        says(32, "STATE: no MEN.");
        refuses("duel(0)", () -> x.duel(0), STATE);
        refuses("duel(6)", () -> x.duel(6), STATE);
    }

    private void odds() {
        says(33, "Chances that nobody not GUILTY who COMES now (not TRIED) is FOUL by HEAT now, if it BURNS each by p "
                + "(0 .. 12) of 12 by 3 more, each by itself: 1.");
        court("i1036 m005");
        fraction("odds(0), as much as HEALS", x.odds(0), 1, 1);
        fraction("odds(1)", x.odds(1), 11, 12);
        fraction("odds(11)", x.odds(11), 1, 12);
        fraction("odds(12)", x.odds(12), 0, 1);
        court("i1036 m004");
        fraction("odds(0), one more", x.odds(0), 0, 1);
        x.salve(0);
        fraction("odds(1), one more, by SALVE", x.odds(1), 11, 12);
        x.salve(0);
        fraction("odds(12), by SALVE of 4 as 4 and 3 are no more than 7", x.odds(12), 1, 1);
        court("i1036 m008");
        fraction("odds(12), 3 more are healed", x.odds(12), 1, 1);
        court("i1036 m007");
        fraction("odds(12), 4 are not", x.odds(12), 0, 1);
        court("i1026 m009");
        fraction("odds(12), 3 more than 0", x.odds(12), 0, 1);
        court("i1036 m005 m005 m005 m005 m005 m005");
        fraction("odds(6) of six", x.odds(6), 1, 64);
        fraction("odds(1) of six", x.odds(1), 1771561, 2985984);
        fraction("odds(11) of six", x.odds(11), 1, 2985984);
        x.trial(1);
        fraction("odds(6) of five, one TRIED", x.odds(6), 1, 32);
        tryAll();
        fraction("odds(12) of all TRIED", x.odds(12), 1, 1);
        court("i1036 m100 m130 m005 w004");
        heatTo(11);
        fraction("odds(0), a WOMAN and GUILTY ones aside", x.odds(0), 0, 1);
        x.trial(2);
        fraction("odds(12) of nobody", x.odds(12), 1, 1);
        oddsRefused();
    }

    private void oddsRefused() {
        says(33, "BAD;");
        badBeside(0, 12, "odds() without MEN", p -> x.odds(p));
        court(SIX);
        badBeside(0, 12, "odds()", p -> x.odds(p));
        says(33, "STATE: no MEN.");
        refuses("odds(0)", () -> x.odds(0), STATE);
        refuses("odds(12)", () -> x.odds(12), STATE);
    }

    private void mid() {
        says(34, "The mean of how many who COME now are CLEAN so: 1.");
        court("i1036 m005 m105 m005 m105 m005 x103");
        fraction("mid(0) of six", x.mid(0), 6, 1);
        fraction("mid(1) of six", x.mid(1), 67, 12);
        fraction("mid(4) of six", x.mid(4), 13, 3);
        fraction("mid(6) of six", x.mid(6), 7, 2);
        fraction("mid(11) of six", x.mid(11), 17, 12);
        fraction("mid(12) of six, one of whom 3 more don't harm", x.mid(12), 1, 1);
        midByHeat();
        court("i1036 m005 m008 m004 m139");
        fraction("mid(0) of three, one FOUL", x.mid(0), 2, 1);
        fraction("mid(1)", x.mid(1), 23, 12);
        fraction("mid(12)", x.mid(12), 1, 1);
        x.salve(2);
        fraction("mid(12) by SALVE", x.mid(12), 1, 1);
        fraction("mid(6) by SALVE", x.mid(6), 2, 1);
        tryAll();
        fraction("mid(0) of all TRIED", x.mid(0), 0, 1);
        court("i1001 m139 m199");
        fraction("mid(0) of nobody", x.mid(0), 0, 1);
        court("i1001 m000");
        fraction("mid(0) of one FOUL", x.mid(0), 0, 1);

        says(34, "BAD;");
        badBeside(0, 12, "mid() without MEN", p -> x.mid(p));
        court(SIX);
        badBeside(0, 12, "mid()", p -> x.mid(p));
        says(34, "STATE: no MEN.");
        refuses("mid(0)", () -> x.mid(0), STATE);
        refuses("mid(12)", () -> x.mid(12), STATE);
    }

    private void midByHeat() {
        court("i1036 w009 m009 c009");
        fraction("mid(12) by 8", x.mid(12), 2, 1);
        heatTo(11);
        fraction("mid(0) by 11, a WOMAN aside", x.mid(0), 1, 1);
        fraction("mid(6) by 11", x.mid(6), 1, 2);
        heatTo(21);
        fraction("mid(0) by 21, a CLERK aside", x.mid(0), 0, 1);
        heatTo(0);
        fraction("mid(0) by 0", x.mid(0), 3, 1);
    }

    // ---- lots

    /** The seed whose first number is wanted. */
    private static int seedFor(long wanted) {
        BigInteger modulus = BigInteger.valueOf(MODULUS);
        BigInteger inverse = BigInteger.valueOf(FACTOR).modInverse(modulus);
        return inverse.multiply(BigInteger.valueOf(wanted)).mod(modulus).intValueExact();
    }

    /** A number that is so much modulo 3, and by 8, cut, so much modulo another, and at least some number. */
    private static long number(int modulo3, int part, int modulo, long least) {
        long it = least;
        while (it % 3 != modulo3 || it / 8 % modulo != part) {
            it++;
        }
        return it;
    }

    private void lots() {
        says(35, "n (1 .. 20) DEEDS truly by LOTS of a seed:");
        court(SIX);
        x.lots(1, 5);
        due("DEEDS behind 1", x.count(2), 1);
        x.lots(20, 5);
        due("DEEDS behind 20 more", x.count(2), 21);
        long digest = x.digest();
        x.undo(1);
        x.lots(20, 5);
        due("digest(), the same by the same seed", x.digest(), digest);

        says(35, "a number comes from the one ahead by 48271 times it modulo 2147483647, the first from the seed (1 .. "
                + "2147483646):");
        for (int seed : new int[] {1, 2, 3, 44488, 44489, 65536, 2147483645, MOST_SEED}) {
            court("i1996 x059 x059 x059 x059 x059 x059");
            Map<Integer, Integer> times = new TreeMap<>();
            long it = seed;
            for (int n = 1; n <= 20; n++) {
                it = BigInteger.valueOf(it).multiply(BigInteger.valueOf(FACTOR)).mod(BigInteger.valueOf(MODULUS))
                        .longValueExact();
                if (it % 3 != 0) {
                    times.merge((int) (it / 8 % 6), 1, Integer::sum);
                }
                x.undo(0);
                x.lots(n, seed);
                for (int i = 0; i < 6; i++) {
                    int often = times.getOrDefault(i, 0);
                    due("whether " + i + " is TRIED by seed " + seed, x.count(3) >> i & 1, Math.min(1, often));
                }
                int salve = times.values().stream().mapToInt(often -> Math.min(3, often - 1)).sum();
                due("SALVE by seed " + seed, x.count(6), salve);
            }
        }
        lotsOfHeat();
        lotsOfMen();
    }

    private void lotsOfHeat() {
        says(35, "if it modulo 3 is 0, HEAT is (it by 8, cut, modulo 11) less 5 more (0, too),");
        court("i1996 x059");
        for (long least : new long[] {3, 2147480000L}) {
            for (int part = 0; part <= 10; part++) {
                int seed = seedFor(number(0, part, 11, least));
                x.undo(0);
                due("lots()", x.lots(1, seed), 0);
                due("HEAT from 8 by " + (part - 5), x.count(1), 3 + part);
                due("a DEED", x.count(2), 1);
                heatTo(0);
                x.lots(1, seed);
                due("HEAT from 0 by " + (part - 5), x.count(1), Math.max(0, part - 5));
                heatTo(30);
                x.lots(1, seed);
                due("HEAT from 30 by " + (part - 5), x.count(1), Math.min(30, part + 25));
                due("nobody TRIED", x.count(3), 0);
            }
        }
    }

    private void lotsOfMen() {
        says(35, "else MAN it by 8, cut, modulo how many there are is tried, if he is not yet,");
        for (int modulo3 = 1; modulo3 <= 2; modulo3++) {
            for (int i = 0; i < 6; i++) {
                court("i1991 x059 x059 x059 x059 x059 x059");
                int seed = seedFor(number(modulo3, i, 6, i % 2 == 0 ? 1 : 2147480000L));
                due("lots()", x.lots(1, seed), 0);
                due("who is TRIED", x.count(3), 1 << i);
                due("HEAT of the angry KING", x.count(1), 13);
                due("SALVE of all", x.count(6), 0);
            }
        }
        court("i1991 x059");
        x.lots(1, seedFor(7));
        due("who is TRIED of one", x.count(3), 1);

        says(35, "else has SALVE, if he has less than 3 (TRIED or not),");
        court("i1991 x059 x059 x059");
        int seed = seedFor(number(1, 2, 3, 1000));
        x.trial(2);
        for (int k = 1; k <= 3; k++) {
            due("lots()", x.lots(1, seed), 0);
            asks("SALVE of one TRIED", x.man(2, 7), 1, k);
            due("DEEDS", x.count(2), k + 1);
        }
        due("SALVE of all", x.count(6), 3);
        due("HEAT", x.count(1), 13);

        says(35, "else nothing (a DEED):");
        court("i1991 x059 x059 x059");
        seed = seedFor(number(2, 1, 3, 1000));
        for (int k = 0; k < 3; k++) {
            x.salve(1);
        }
        due("lots() of one who has 3, not TRIED", x.lots(1, seed), 0);
        asks("his TRIAL", x.man(1, 8), 1, 1);
        due("lots() of one who has 3, TRIED", x.lots(1, seed), 0);
        asks("SALVE", x.man(1, 7), 1, 3);
        due("HEAT", x.count(1), 13);
        due("DEEDS, nothing being one", x.count(2), 5);
        due("undo() of nothing", x.undo(4), 1);
        due("HEAT", x.count(1), 13);

        says(35, "how many were told WRONGLY.");
        court("i1006 m000 m109 m009 m100 m139 w009");
        int[] wrongly = {1, 1, 0, 0, 0, 0};
        for (int i = 0; i < 6; i++) {
            due("lots() of " + i, x.lots(1, seedFor(number(1, i, 6, 5000))), wrongly[i]);
        }
        due("lots() of one told WRONGLY before", x.lots(1, seedFor(number(1, 0, 6, 5000))), 0);
        due("told WRONGLY in all", x.count(5), 2);
        court("i1006 m000 m000 m000 m000 m000 m000");
        int before = 0;
        for (int k = 0; k < 2; k++) {
            int due = x.lots(20, 11 + k);
            due("lots(20, " + (11 + k) + ")", due, x.count(5) - before);
            before = x.count(5);
        }
        due("told WRONGLY in all, at least some", before > 0 ? 1 : 0, 1);
    }

    private void lotsRefused() {
        says(35, "BAD;");
        badBeside(1, 20, "lots(n, 1) without MEN", n -> x.lots(n, 1));
        court(SIX);
        badBeside(1, 20, "lots(n, 1)", n -> x.lots(n, 1));
        badBeside(1, MOST_SEED, "lots(1, seed)", seed -> x.lots(1, seed));
        due("lots(1, 1)", x.lots(1, 1) >= 0 ? 1 : 0, 1);
        due("lots(1, most)", x.lots(1, MOST_SEED) >= 0 ? 1 : 0, 1);
        says(35, "STATE: no MEN;");
        refuses("lots(1, 1)", () -> x.lots(1, 1), STATE);
        refuses("lots(20, most)", () -> x.lots(20, MOST_SEED), STATE);
        says(35, "FULL: with n more there would be more than 40 DEEDS.");
        for (int n = 1; n <= 20; n++) {
            int deeds = n;
            court(SIX);
            fill(41 - n);
            refuses("lots(" + n + ", 1), one too many", () -> x.lots(deeds, 1), FULL);
            x.undo(40 - n);
            due("lots(" + n + ", 1) to 40", x.lots(n, 1) >= 0 ? 1 : 0, 1);
            due("DEEDS", x.count(2), 40);
            refuses("lots(1, 1) of 40", () -> x.lots(1, 1), FULL);
        }
        says(35, "(FULL last.)");
        court(SIX);
        fill(40);
        badBeside(1, 20, "lots(n, 1) of 40", n -> x.lots(n, 1));
        badBeside(1, MOST_SEED, "lots(1, seed) of 40", seed -> x.lots(1, seed));
    }

    // ---- what is told

    private void tellsAgain(String what, IntSupplier call, int told) {
        call.getAsInt();
        due("asked() behind " + what, x.asked(), told);
    }

    private void asked() {
        says(36, "What the latest lay(), at(), mean(), man(), trial(), comes(), wrong(), best(), tried(), least(), "
                + "fits(), ask() that was not refused (nor answered NONE) told;");
        court("i1006 m107 m009 w004");
        x.row(1, 0);
        x.row(0, 2);
        tellsAgain("lay()", () -> x.lay(0, 1, 77), 0);
        tellsAgain("lay()", () -> x.lay(0, 1, 5), 77);
        tellsAgain("at()", () -> x.at(0, 1), 5);
        tellsAgain("mean()", () -> x.mean(0), 2);
        tellsAgain("man()", () -> x.man(1, 3), 9);
        tellsAgain("comes()", () -> x.comes(), 2);
        tellsAgain("wrong()", () -> x.wrong(7), 1);
        tellsAgain("best()", () -> x.best(), 1);
        tellsAgain("tried()", () -> x.tried(1), 8);
        tellsAgain("least()", () -> x.least(), 1);
        tellsAgain("fits()", () -> x.fits(1), 31);
        tellsAgain("ask()", () -> x.ask(1), 20);
        tellsAgain("trial()", () -> x.trial(0), 0);
        tellsAgain("man()", () -> x.man(0, 8), 0);
        tellsAgain("man(), NONE by asked()", () -> x.man(1, 8), NONE);
        x.man(1, 3);
        othersDoNotTell();
        refusedDoNotTell();

        says(36, "0 before.");
        due("asked() at first", x.asked(), 0);
        court(SIX);
        x.heat(1);
        x.tells(8);
        due("asked() behind other calls", x.asked(), 0);
        x.at(0, 0);
        due("asked() behind a refusal", x.asked(), 0);
    }

    private void othersDoNotTell() {
        tellsAgain("row()", () -> x.row(2, 2), 9);
        tellsAgain("copy()", () -> x.copy(2, 0, 2, 1, 1), 9);
        tellsAgain("tear()", () -> x.tear(2), 9);
        tellsAgain("text()", () -> x.text(0, 5), 9);
        tellsAgain("put()", () -> x.put(0, 1, 5), 9);
        tellsAgain("fault()", () -> x.fault(0), 9);
        tellsAgain("mark()", () -> x.mark(2, 3), 9);
        tellsAgain("heat()", () -> x.heat(-1), 9);
        tellsAgain("salve()", () -> x.salve(1), 9);
        tellsAgain("keep()", () -> x.keep(0), 9);
        tellsAgain("undo()", () -> x.undo(2), 9);
        tellsAgain("on()", () -> x.on(0), 9);
        tellsAgain("heats()", () -> x.heats(0, 1), 9);
        tellsAgain("tells()", () -> x.tells(1), 9);
        tellsAgain("order()", () -> x.order(3), 9);
        tellsAgain("hands()", () -> x.hands(0, 1), 9);
        tellsAgain("kinds()", () -> x.kinds(0, 1), 9);
        tellsAgain("duel()", () -> x.duel(2), 9);
        tellsAgain("odds()", () -> x.odds(2), 9);
        tellsAgain("mid()", () -> x.mid(2), 9);
        tellsAgain("lots()", () -> x.lots(3, 7), 9);
        tellsAgain("count()", () -> x.count(1), 9);
        tellsAgain("digest()", () -> (int) x.digest(), 9);
        tellsAgain("court()", () -> x.court(3), 9);
    }

    private void refusedDoNotTell() {
        tellsAgain("lay() refused", () -> x.lay(0, 2, 1), 9);
        tellsAgain("at() refused", () -> x.at(5, 0), 9);
        tellsAgain("mean() refused", () -> x.mean(1), 9);
        tellsAgain("man() refused", () -> x.man(0, 9), 9);
        tellsAgain("trial() refused", () -> x.trial(3), 9);
        tellsAgain("wrong() refused", () -> x.wrong(31), 9);
        tellsAgain("tried() refused", () -> x.tried(5), 9);
        tellsAgain("fits() refused", () -> x.fits(5), 9);
        tellsAgain("ask() refused", () -> x.ask(5), 9);
        row(4, 0, 1, 0, 0);
        x.man(1, 3);
        tellsAgain("ask(), NONE", () -> x.ask(4), 9);
        court("i1006 m000 m009");
        x.man(1, 3);
        tellsAgain("least(), NONE", () -> x.least(), 9);
        tellsAgain("fits(), 0 is told", () -> x.fits(4), 0);
    }

    private void fractions() {
        says(37, "The upper number that was told last;");
        toldLast("upper()", () -> x.upper(), 1, 11, 7, 0);
        says(37, "0 before.");
        toldBefore("upper()", () -> x.upper(), 0);
        says(38, "Its lower number;");
        toldLast("lower()", () -> x.lower(), 2, 12, 6, 1);
        says(38, "1 before.");
        toldBefore("lower()", () -> x.lower(), 1);
    }

    private void toldLast(String what, LongSupplier number, long tells, long odds, long mid, long ofNobody) {
        court("i1036 m105 m005");
        x.tells(8);
        due(what + " of tells()", number.getAsLong(), tells);
        x.odds(1);
        due(what + " of odds()", number.getAsLong(), odds);
        x.mid(5);
        due(what + " of mid()", number.getAsLong(), mid);
        x.wrong(8);
        x.best();
        x.mean(0);
        due(what + " behind other calls", number.getAsLong(), mid);
        x.tells(31);
        x.odds(13);
        x.mid(-1);
        due(what + " behind refusals", number.getAsLong(), mid);
        x.court(3);
        due(what + " behind court()", number.getAsLong(), mid);
        x.tells(30);
        due(what + " of nobody", number.getAsLong(), ofNobody);
    }

    private void toldBefore(String what, LongSupplier number, long due) {
        due(what + " at first", number.getAsLong(), due);
        x.tells(8);
        due(what + " behind a refusal", number.getAsLong(), due);
        court(SIX);
        x.best();
        x.duel(6);
        due(what + " behind other calls", number.getAsLong(), due);
    }

    private void counts(int... due) {
        for (int what = 0; what < due.length; what++) {
            due("count(" + what + ")", x.count(what), due[what]);
        }
    }

    private void count() {
        says(39, "0 MEN, 1 HEAT (8 without MEN), 2 DEEDS, 3 who is TRIED (bits), 4 how many TRIALS told CLEAN, 5 how many "
                + "told WRONGLY, 6 all SALVE, 7 PLOUGHMEN (PROXIES, too), 8 ROWS, 9 TEXTS that are there, 10 kept "
                + "COURTS.");
        counts(0, 8, 0, 0, 0, 0, 0, 0, 0, 0, 0);
        for (int r = 0; r <= 5; r++) {
            x.row(r, r % 2);
            due("ROWS", x.count(8), r + 1);
        }
        for (int t = 0; t <= 3; t++) {
            x.text(t, t % 2);
            due("TEXTS", x.count(9), t + 1);
        }
        court("i1996 x159 p159 x199 p199 x159 p159");
        counts(6, 8, 0, 0, 0, 0, 0, 6, 6, 4, 0);
        for (int i = 0; i < 6; i++) {
            for (int k = 0; k < 3; k++) {
                x.salve(i);
            }
            due("SALVE of all", x.count(6), 3 * i + 3);
        }
        tryAll();
        counts(6, 8, 24, 63, 3, 3, 18, 6, 6, 4, 0);
        for (int k = 0; k <= 2; k++) {
            x.keep(k);
            due("kept COURTS", x.count(10), k + 1);
        }
        fill(16);
        x.tear(5);
        counts(6, 8, 40, 63, 3, 3, 18, 6, 5, 4, 3);
        x.undo(19);
        counts(6, 8, 19, 1, 1, 1, 18, 6, 5, 4, 3);
        court("i1001 m000 c000 w000 n000");
        counts(4, 8, 0, 0, 0, 0, 0, 0, 5, 4, 0);
        heatTo(30);
        due("HEAT", x.count(1), 30);

        says(39, "BAD.");
        badBeside(0, 10, "count() at first", what -> x.count(what));
        court(SIX);
        badBeside(0, 10, "count()", what -> x.count(what));
    }

    private void findings() {
        says(40, "The latest FINDING");
        IntSupplier[] calls = {() -> x.at(0, 0), () -> x.put(1, 0, 1), () -> x.mark(0, 1), () -> x.mean(1),
            () -> x.row(0, -1)};
        x.text(1, 0);
        x.row(1, 0);
        court("i1001m000");
        for (int f = 1; f <= 5; f++) {
            due("a refusal", calls[f - 1].getAsInt(), FINDING);
            due("finding()", x.finding(), f);
        }
        due("a refusal", x.at(0, 0), FINDING);
        due("finding(), the latest, not the greatest", x.finding(), 1);
        x.row(0, 41);
        x.salve(3);
        x.court(1);
        x.least();
        x.row(0, 1);
        x.court(3);
        due("finding() behind other refusals and calls", x.finding(), 1);
        says(40, "(0 before any).");
        due("finding() at first", x.finding(), 0);
        x.row(6, 0);
        x.heat(1);
        due("finding() behind BAD, STATE", x.finding(), 0);

        says(41, "How often a FINDING (1 .. 5) was answered.");
        x.text(1, 0);
        x.row(1, 0);
        court("i1001m000");
        for (int f = 1; f <= 5; f++) {
            due("findings(" + f + ") at first", x.findings(f), 0);
            for (int k = 0; k < f; k++) {
                calls[f - 1].getAsInt();
            }
        }
        x.heat(9);
        x.trial(9);
        x.court(3);
        for (int f = 1; f <= 5; f++) {
            due("findings(" + f + ")", x.findings(f), f);
        }
        says(41, "BAD.");
        badBeside(1, 5, "findings()", f -> x.findings(f));
    }

    // ---- digest

    /** The digest by what other calls tell, and the sizes that are due: of rows, then of texts, -1 if missing. */
    private long digestByCalls(int[] deedsKept, int[][] rows, String[] texts) {
        long h = 17;
        for (int what = 0; what <= 10; what++) {
            h = 31 * h + x.count(what);
        }
        for (int i = 0; i < x.count(0); i++) {
            for (int what = 0; what <= 8; what++) {
                x.man(i, what);
                h = 31 * h + x.asked();
            }
        }
        for (int deeds : deedsKept) {
            h = 31 * h + deeds;
        }
        for (int[] row : rows) {
            h = 31 * h + (row == null ? -1 : row.length);
            for (int k = 0; row != null && k < row.length; k++) {
                h = 31 * h + row[k];
            }
        }
        for (String text : texts) {
            h = 31 * h + (text == null ? -1 : text.length());
            for (int k = 0; text != null && k < text.length(); k++) {
                h = 31 * h + (byte) text.charAt(k);
            }
        }
        return h;
    }

    private void digest() {
        says(42, "h = 17; then h = 31 h + v for each v (of a call that tells by asked(): what it tells, not the 1 that it "
                + "answers; asked() stays):");
        due("digest() at first", x.digest(), digestByCalls(new int[] {-1, -1, -1}, new int[6][], new String[4]));
        court(SIX);
        x.man(5, 3);
        long digest = x.digest();
        due("asked() stays", x.asked(), 3);
        due("digest() again", x.digest(), digest);
        due("asked() stays", x.asked(), 3);
        x.man(0, 2);
        due("digest(), whatever was asked", x.digest(), digest);

        says(42, "count() 0 to 10; of each MAN man() 0 to 8;");
        court("i3341 n057 x194 w000");
        String[] texts = {null, null, null, "i3341 n057 x194 w000"};
        due("digest() of MEN", x.digest(), digestByCalls(new int[] {-1, -1, -1}, new int[6][], texts));
        x.salve(1);
        x.heat(5);
        x.trial(0);
        x.trial(2);
        due("digest() behind DEEDS", x.digest(), digestByCalls(new int[] {-1, -1, -1}, new int[6][], texts));

        says(42, "of each kept COURT how many DEEDS (-1: missing);");
        court("i1001m000");
        texts[3] = "i1001m000";
        x.keep(1);
        due("digest(), none kept in 1", x.digest(), digestByCalls(new int[] {-1, 0, -1}, new int[6][], texts));
        fill(40);
        x.keep(2);
        due("digest(), 40 kept in 2", x.digest(), digestByCalls(new int[] {-1, 0, 40}, new int[6][], texts));
        x.undo(3);
        x.keep(0);
        due("digest(), 3 kept in 0", x.digest(), digestByCalls(new int[] {3, 0, 40}, new int[6][], texts));

        says(42, "of each ROW its size (-1: missing) and places,");
        int[][] rows = {{}, null, {0}, new int[40], {LEAST, MOST}, {-1}};
        row(0);
        row(2, 0);
        x.row(3, 40);
        row(4, LEAST, MOST);
        row(5, -1);
        due("digest() of ROWS", x.digest(), digestByCalls(new int[] {-1, -1, -1}, rows, new String[4]));
        x.tear(5);
        rows[5] = null;
        x.row(3, 1);
        rows[3] = new int[1];
        due("digest() of fewer", x.digest(), digestByCalls(new int[] {-1, -1, -1}, rows, new String[4]));

        says(42, "of each TEXT likewise.");
        String[] bytes = {"", null, " ".repeat(60), "\u0080\u00ff\u0000\u007f "};
        for (int t : new int[] {0, 2, 3}) {
            x.text(t, bytes[t].length());
        }
        int[] put = {-128, -1, 256, 127};
        for (int i = 0; i < put.length; i++) {
            x.put(3, i, put[i]);
        }
        due("digest() of TEXTS", x.digest(), digestByCalls(new int[] {-1, -1, -1}, new int[6][], bytes));
    }
}
