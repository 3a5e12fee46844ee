/**
 * The ordeal of the hot iron: courts of accused ones, what heat burns them, and what their trials tell.
 * ../shared/DOC.md says what each call promises; the words it has in capitals mean the same here.
 */
public final class ThirdDay {
    public static final int BAD = -1, FULL = -2, FINDING = -3, STATE = -4, SPENT = -6, NONE = -9;

    private static final int NOTHING = 1, BEYOND = 2, UNLIKE = 3, NOUGHT = 4, SIZE = 5;
    private static final int WELL = 0, MISSING = -1;

    private static final int ROWS = 6, MOST_PLACES = 40, TEXTS = 4, MOST_BYTES = 60, KEPT_COURTS = 3;
    private static final int MOST_MEN = 6, MOST_DEEDS = 40, MOST_SALVE = 3, MOST_TURNS = 6;
    private static final int MOST_HEAT = 30, HEATS = 31, ALL_HEATS = 2147483647, FIRST_HEAT = 8, HANDS = 10;
    private static final int BLANK = ' ', FIGURE_NOUGHT = '0', COURT_LETTER = 'i', BYTE_OFFSET = 1000;

    private static final int MAN = 0, PLOUGHMAN = 1, CLERK = 2, WOMAN = 3, PROXY = 4, NEPHEW = 5, KINDS = 6;
    private static final int CLERKS_HEAT = 20, WOMANS_HEAT = 10, FIRM_BELIEF = 5, FEARLESS_BELIEF = 3;

    private static final int FOUL = 0, CLEAN = 1, STAYS_AWAY = 2, VERDICTS = 3;
    private static final int HEATING = 0, SALVING = 1, TRYING = 2, IDLING = 3;
    private static final int MOST_HEATING = 5, MOST_STIRRING = 3, ANGER = 5;

    private static final int CHANCES = 12, BURNS_MORE = 3;
    private static final int MOST_LOTS = 20, MOST_SEED = 2147483646;
    private static final long LOT_FACTOR = 48271L, LOT_MODULUS = 2147483647L;

    private static final int COUNTS = 11, DETAILS = 9;

    private final Row[] rows = new Row[ROWS];
    private final Row[] texts = new Row[TEXTS];
    private final Reader reader = new Reader();
    private final Court court = new Court();
    private final Deeds[] kept = new Deeds[KEPT_COURTS];
    private final Orders orders = new Orders();
    private final Duel turns = new Duel();
    private final int[] findingCounts = new int[SIZE + 1];
    private int latestFinding;
    private int told;
    private long upperTold;
    private long lowerTold = 1;

    public ThirdDay() {
        for (int r = 0; r < ROWS; r++) {
            rows[r] = new Row(MOST_PLACES);
        }
        for (int t = 0; t < TEXTS; t++) {
            texts[t] = new Row(MOST_BYTES);
        }
        for (int k = 0; k < KEPT_COURTS; k++) {
            kept[k] = new Deeds(MISSING);
        }
    }

    // ---- 1 rows, texts, courts

    public int row(int r, int n) {
        return laidOut(rows, r, n, 0);
    }

    public int lay(int r, int i, int v) {
        int refusal = placeRefusal(rows, r, i);
        if (refusal != WELL) {
            return refusal;
        }
        told = rows[r].places[i];
        rows[r].places[i] = v;
        return 1;
    }

    public int at(int r, int i) {
        int refusal = placeRefusal(rows, r, i);
        if (refusal != WELL) {
            return refusal;
        }
        told = rows[r].places[i];
        return 1;
    }

    public int tear(int r) {
        int refusal = missingRefusal(rows, r);
        if (refusal != WELL) {
            return refusal;
        }
        rows[r].size = MISSING;
        return 1;
    }

    public int copy(int r, int i, int to, int j, int n) {
        if (!isOneOf(rows, r) || !isOneOf(rows, to)) {
            return BAD;
        }
        if (n < 0) {
            return found(SIZE);
        }
        Row from = rows[r];
        Row onto = rows[to];
        if (from.isMissing() || onto.isMissing()) {
            return found(NOTHING);
        }
        if (!from.hasStretch(i, n) || !onto.hasStretch(j, n)) {
            return found(BEYOND);
        }
        System.arraycopy(from.places, i, onto.places, j, n);
        return 1;
    }

    public int mean(int r) {
        int refusal = missingRefusal(rows, r);
        if (refusal != WELL) {
            return refusal;
        }
        Row row = rows[r];
        if (row.size == 0) {
            return found(NOUGHT);
        }
        told = (int) (row.sum() / row.size);
        return 1;
    }

    public int text(int t, int n) {
        return laidOut(texts, t, n, BLANK);
    }

    public int put(int t, int i, int v) {
        int refusal = placeRefusal(texts, t, i);
        if (refusal != WELL) {
            return refusal;
        }
        int before = texts[t].places[i];
        texts[t].places[i] = (byte) v;
        return BYTE_OFFSET + before;
    }

    public int fault(int t) {
        int refusal = missingRefusal(texts, t);
        if (refusal != WELL) {
            return refusal;
        }
        return reader.read(texts[t]);
    }

    public int court(int t) {
        int refusal = missingRefusal(texts, t);
        if (refusal != WELL) {
            return refusal;
        }
        if (reader.read(texts[t]) != NONE) {
            return STATE;
        }
        court.assemble(reader);
        for (int k = 0; k < KEPT_COURTS; k++) {
            kept[k].size = MISSING;
        }
        return court.size;
    }

    public int man(int i, int what) {
        if (!isMan(i) || what < 0 || what >= DETAILS) {
            return BAD;
        }
        told = court.detail(court.men[i], what);
        return 1;
    }

    public int mark(int i, int kind) {
        if (!isMan(i) || kind < PLOUGHMAN || kind >= KINDS) {
            return BAD;
        }
        Man one = court.men[i];
        if (!one.isOf(kind)) {
            return found(UNLIKE);
        }
        switch (kind) {
            case PLOUGHMAN:
                return court.heatToSpare(one);
            case CLERK:
                return court.likeButPlain(one).hardness() - one.hardness();
            case WOMAN:
                return Math.max(0, court.heat - WOMANS_HEAT);
            case PROXY:
                return court.absent(); // a proxy is never one of them
            default:
                return court.felt(court.likeButPlain(one), court.heat) - court.felt(one, court.heat);
        }
    }

    // ---- 2 deeds

    public int heat(int by) {
        if (by == 0 || by < -MOST_HEATING || by > MOST_HEATING) {
            return BAD;
        }
        if (court.size == 0) {
            return STATE;
        }
        if (!court.deeds.hasRoomFor(1)) {
            return FULL;
        }
        court.perform(HEATING, by);
        return court.heat;
    }

    public int salve(int i) {
        if (!isMan(i)) {
            return BAD;
        }
        Man one = court.men[i];
        if (one.salve >= MOST_SALVE || one.isTried()) {
            return STATE;
        }
        if (!court.deeds.hasRoomFor(1)) {
            return FULL;
        }
        court.perform(SALVING, i);
        return one.salve;
    }

    public int trial(int i) {
        if (!isMan(i)) {
            return BAD;
        }
        Man one = court.men[i];
        if (one.isTried()) {
            return STATE;
        }
        if (!court.deeds.hasRoomFor(1)) {
            return FULL;
        }
        court.perform(TRYING, i);
        told = one.wronged ? 1 : 0;
        return one.verdict;
    }

    public int undo(int n) {
        if (n < 0 || n > court.deeds.size) {
            return BAD;
        }
        int undone = court.deeds.size - n;
        court.deeds.size = n;
        court.actAgain();
        return undone;
    }

    // The men of a kept court are those of now, since court() lets all kept ones go: its deeds suffice.
    public int keep(int k) {
        if (!isKeptPlace(k)) {
            return BAD;
        }
        if (court.size == 0) {
            return STATE;
        }
        kept[k].become(court.deeds);
        return court.deeds.size;
    }

    public int on(int k) {
        if (!isKeptPlace(k)) {
            return BAD;
        }
        if (kept[k].size == MISSING) {
            return found(NOTHING);
        }
        court.deeds.become(kept[k]);
        court.actAgain();
        return court.deeds.size;
    }

    // ---- 3 heats

    public int comes() {
        if (court.size == 0) {
            return STATE;
        }
        int coming = 0;
        int clean = 0;
        for (int i = 0; i < court.size; i++) {
            Man one = court.men[i];
            int verdict = court.verdict(one, court.heat);
            if (!one.isTried() && verdict != STAYS_AWAY) {
                coming |= 1 << i;
                clean |= verdict == CLEAN ? 1 << i : 0;
            }
        }
        told = clean;
        return coming;
    }

    public int wrong(int heat) {
        int refusal = heatRefusal(heat);
        if (refusal != WELL) {
            return refusal;
        }
        told = court.guiltyWrongly(heat);
        return court.allWrongly(heat);
    }

    public int best() {
        if (court.size == 0) {
            return STATE;
        }
        int bestHeat = 0;
        int fewest = court.allWrongly(0);
        for (int heat = 1; heat < HEATS; heat++) {
            int wrongly = court.allWrongly(heat);
            if (wrongly < fewest) {
                fewest = wrongly;
                bestHeat = heat;
            }
        }
        told = fewest;
        return bestHeat;
    }

    public int heats(int i, int v) {
        if (!isMan(i) || v < 0 || v >= VERDICTS) {
            return BAD;
        }
        return court.heatsTelling(court.men[i], v);
    }

    public int tells(int heat) {
        int refusal = heatRefusal(heat);
        if (refusal != WELL) {
            return refusal;
        }
        int clean = 0;
        int guilty = 0;
        for (int i = 0; i < court.size; i++) {
            Man one = court.men[i];
            if (!one.isTried() && court.verdict(one, heat) == CLEAN) {
                clean++;
                guilty += one.guilt;
            }
        }
        tellFraction(guilty, clean);
        return 1;
    }

    // ---- 4 orders

    public int order(int r) {
        int refusal = rowRefusal(r);
        if (refusal != WELL) {
            return refusal;
        }
        return orders.layBest(court, rows[r]);
    }

    public int tried(int r) {
        int refusal = rowRefusal(r);
        if (refusal != WELL) {
            return refusal;
        }
        Row row = rows[r];
        int finding = orderFinding(row);
        if (finding != WELL) {
            return found(finding);
        }
        int wrongly = 0;
        int clean = court.toldClean();
        int heat = court.heat;
        for (int place = 0; place < row.size; place++) {
            Man one = court.men[row.places[place]];
            int verdict = court.verdict(one, heat);
            wrongly += one.wrongedBy(verdict) ? 1 : 0;
            clean += verdict == CLEAN ? 1 : 0;
            heat = court.heatBehind(verdict, clean, heat);
        }
        told = heat;
        return wrongly;
    }

    public int least() {
        if (court.size == 0) {
            return STATE;
        }
        int salve = 0;
        int needy = 0;
        for (int i = 0; i < court.size; i++) {
            Man one = court.men[i];
            int need = court.mustBeCleared(one) ? court.salveNeeded(one) : 0;
            if (one.salve + need > MOST_SALVE) {
                return NONE;
            }
            salve += need;
            needy += need > 0 ? 1 : 0;
        }
        told = needy;
        return salve;
    }

    // ---- 5 how hot it was

    public int fits(int r) {
        int refusal = trialsRefusal(r);
        if (refusal != WELL) {
            return refusal;
        }
        int fitting = court.heatsFitting(rows[r]);
        told = Integer.bitCount(fitting);
        return fitting;
    }

    public int ask(int r) {
        int refusal = trialsRefusal(r);
        if (refusal != WELL) {
            return refusal;
        }
        int fitting = court.heatsFitting(rows[r]);
        if (fitting == 0) {
            return NONE;
        }
        int bestMan = 0;
        int leastPart = court.greatestPart(court.men[0], fitting);
        for (int i = 1; i < court.size; i++) {
            int part = court.greatestPart(court.men[i], fitting);
            if (part < leastPart) {
                leastPart = part;
                bestMan = i;
            }
        }
        told = leastPart;
        return bestMan;
    }

    public int hands(int i, int r) {
        int refusal = suppositionRefusal(i, r);
        if (refusal != WELL) {
            return refusal;
        }
        Man supposed = court.likeOf(court.men[i]);
        int fitting = 0;
        for (int hand = 0; hand < HANDS; hand++) {
            supposed.hand = hand;
            fitting |= court.wouldTell(supposed, rows[r]) ? 1 << hand : 0;
        }
        return fitting;
    }

    public int kinds(int i, int r) {
        int refusal = suppositionRefusal(i, r);
        if (refusal != WELL) {
            return refusal;
        }
        Man supposed = court.likeOf(court.men[i]);
        int fitting = 0;
        for (int kind = 0; kind < KINDS; kind++) {
            supposed.kind = kind;
            fitting |= court.wouldTell(supposed, rows[r]) ? 1 << kind : 0;
        }
        return fitting;
    }

    // ---- 6 by turns

    public int duel(int n) {
        if (n < 0 || n > MOST_TURNS) {
            return BAD;
        }
        if (court.size == 0) {
            return STATE;
        }
        return turns.foulAtLast(court, n);
    }

    // ---- 7 chances, lots

    public int odds(int p) {
        int refusal = chanceRefusal(p);
        if (refusal != WELL) {
            return refusal;
        }
        long upper = 1;
        long lower = 1;
        for (int i = 0; i < court.size; i++) {
            Man one = court.men[i];
            if (court.mustBeCleared(one)) {
                upper *= court.cleanChances(one, p);
                lower *= CHANCES;
            }
        }
        tellFraction(upper, lower);
        return 1;
    }

    public int mid(int p) {
        int refusal = chanceRefusal(p);
        if (refusal != WELL) {
            return refusal;
        }
        long upper = 0;
        for (int i = 0; i < court.size; i++) {
            Man one = court.men[i];
            if (!one.isTried() && one.appears(court.heat)) {
                upper += court.cleanChances(one, p);
            }
        }
        tellFraction(upper, CHANCES);
        return 1;
    }

    public int lots(int n, int seed) {
        if (n < 1 || n > MOST_LOTS || seed < 1 || seed > MOST_SEED) {
            return BAD;
        }
        if (court.size == 0) {
            return STATE;
        }
        if (!court.deeds.hasRoomFor(n)) {
            return FULL;
        }
        int before = court.toldWrongly();
        long lot = seed;
        for (int k = 0; k < n; k++) {
            lot = lot * LOT_FACTOR % LOT_MODULUS;
            int part = (int) (lot / 8);
            if (lot % 3 == 0) {
                court.perform(HEATING, part % 11 - 5);
            } else {
                int i = part % court.size;
                court.perform(court.men[i].dueByLot(), i);
            }
        }
        return court.toldWrongly() - before;
    }

    // ---- 8 what is told

    public int asked() {
        return told;
    }

    public long upper() {
        return upperTold;
    }

    public long lower() {
        return lowerTold;
    }

    public int count(int what) {
        switch (what) {
            case 0:
                return court.size;
            case 1:
                return court.heat;
            case 2:
                return court.deeds.size;
            case 3:
                return court.triedOnes();
            case 4:
                return court.toldClean();
            case 5:
                return court.toldWrongly();
            case 6:
                return court.allSalve();
            case 7:
                return court.ploughmen();
            case 8:
                return howManyThere(rows);
            case 9:
                return howManyThere(texts);
            case 10:
                return courtsKept();
            default:
                return BAD;
        }
    }

    public int finding() {
        return latestFinding;
    }

    public int findings(int f) {
        if (f < NOTHING || f > SIZE) {
            return BAD;
        }
        return findingCounts[f];
    }

    public long digest() {
        long h = 17;
        for (int what = 0; what < COUNTS; what++) {
            h = 31 * h + count(what);
        }
        for (int i = 0; i < court.size; i++) {
            for (int what = 0; what < DETAILS; what++) {
                h = 31 * h + court.detail(court.men[i], what);
            }
        }
        for (int k = 0; k < KEPT_COURTS; k++) {
            h = 31 * h + kept[k].size;
        }
        for (int r = 0; r < ROWS; r++) {
            h = rows[r].digestOnto(h);
        }
        for (int t = 0; t < TEXTS; t++) {
            h = texts[t].digestOnto(h);
        }
        return h;
    }

    // ---- what the calls share: a refusal is WELL, or what the call answers

    private int found(int finding) {
        latestFinding = finding;
        findingCounts[finding]++;
        return FINDING;
    }

    private static boolean isOneOf(Row[] list, int r) {
        return r >= 0 && r < list.length;
    }

    private boolean isMan(int i) {
        return i >= 0 && i < court.size;
    }

    private static boolean isKeptPlace(int k) {
        return k >= 0 && k < KEPT_COURTS;
    }

    private int missingRefusal(Row[] list, int r) {
        if (!isOneOf(list, r)) {
            return BAD;
        }
        return list[r].isMissing() ? found(NOTHING) : WELL;
    }

    private int placeRefusal(Row[] list, int r, int i) {
        int refusal = missingRefusal(list, r);
        if (refusal != WELL) {
            return refusal;
        }
        return i >= 0 && i < list[r].size ? WELL : found(BEYOND);
    }

    private int laidOut(Row[] list, int r, int n, int v) {
        if (!isOneOf(list, r) || n > list[r].places.length) {
            return BAD;
        }
        if (n < 0) {
            return found(SIZE);
        }
        list[r].layOut(n, v);
        return n;
    }

    private int rowRefusal(int r) {
        if (!isOneOf(rows, r)) {
            return BAD;
        }
        return court.size == 0 ? STATE : WELL;
    }

    private int heatRefusal(int heat) {
        if (heat < 0 || heat > MOST_HEAT) {
            return BAD;
        }
        return court.size == 0 ? STATE : WELL;
    }

    private int chanceRefusal(int p) {
        if (p < 0 || p > CHANCES) {
            return BAD;
        }
        return court.size == 0 ? STATE : WELL;
    }

    private int trialsRefusal(int r) {
        int refusal = rowRefusal(r);
        if (refusal != WELL) {
            return refusal;
        }
        int finding = pairsFinding(rows[r], court.size);
        return finding == WELL ? WELL : found(finding);
    }

    private int suppositionRefusal(int i, int r) {
        if (!isMan(i) || !isOneOf(rows, r)) {
            return BAD;
        }
        int finding = pairsFinding(rows[r], HEATS);
        return finding == WELL ? WELL : found(finding);
    }

    /** What is amiss with a row of pairs, each a number below firstBound, then what a trial told. */
    private static int pairsFinding(Row row, int firstBound) {
        if (row.isMissing()) {
            return NOTHING;
        }
        if (row.size % 2 != 0) {
            return SIZE;
        }
        for (int place = 0; place < row.size; place++) {
            int bound = place % 2 == 0 ? firstBound : VERDICTS;
            if (row.places[place] < 0 || row.places[place] >= bound) {
                return UNLIKE;
            }
        }
        return WELL;
    }

    /** What is amiss with a row of men who are to be tried. */
    private int orderFinding(Row row) {
        if (row.isMissing()) {
            return NOTHING;
        }
        if (row.size > MOST_MEN) {
            return SIZE;
        }
        int out = court.triedOnes();
        for (int place = 0; place < row.size; place++) {
            int i = row.places[place];
            if (!isMan(i) || (out & 1 << i) != 0) {
                return UNLIKE;
            }
            out |= 1 << i;
        }
        return WELL;
    }

    /** In lowest terms; 0 by 1, if the lower number is 0, as nobody is counted then. */
    private void tellFraction(long upper, long lower) {
        long common = commonDivisor(lower, upper);
        upperTold = common == 0 ? 0 : upper / common;
        lowerTold = common == 0 ? 1 : lower / common;
    }

    private static long commonDivisor(long one, long other) {
        long common = one;
        long rest = other;
        for (int step = 0; step < 100 && rest != 0; step++) {
            long next = common % rest;
            common = rest;
            rest = next;
        }
        return common;
    }

    private static int howManyThere(Row[] list) {
        int there = 0;
        for (int r = 0; r < list.length; r++) {
            there += list[r].isMissing() ? 0 : 1;
        }
        return there;
    }

    private int courtsKept() {
        int there = 0;
        for (int k = 0; k < KEPT_COURTS; k++) {
            there += kept[k].size == MISSING ? 0 : 1;
        }
        return there;
    }

    /** A row of ints, or a text of bytes; its places are made once and serve for every size. */
    private static final class Row {
        private final int[] places;
        private int size = MISSING;

        Row(int mostPlaces) {
            places = new int[mostPlaces];
        }

        boolean isMissing() {
            return size == MISSING;
        }

        void layOut(int n, int v) {
            for (int i = 0; i < n && i < places.length; i++) {
                places[i] = v;
            }
            size = n;
        }

        boolean hasStretch(int from, int n) {
            return from >= 0 && from <= size && n <= size - from;
        }

        long sum() {
            long sum = 0;
            for (int i = 0; i < size; i++) {
                sum += places[i];
            }
            return sum;
        }

        long digestOnto(long ahead) {
            long h = 31 * ahead + size;
            for (int i = 0; i < size; i++) {
                h = 31 * h + places[i];
            }
            return h;
        }
    }

    /** Reads a text as a court: four figures of the iron, then four numbers (the kind, three figures) a man. */
    private static final class Reader {
        private static final int OF_THE_IRON = 4, OF_A_MAN = 4;

        private final int[] numbers = new int[OF_THE_IRON + OF_A_MAN * MOST_MEN];
        private int taken;
        private int men;
        private int place;

        /** The first place at which the text can't go on, or NONE; what was read stays till the next reading. */
        int read(Row text) {
            taken = 0;
            men = 0;
            place = 0;
            passBlanks(text);
            boolean well = takeIron(text);
            for (int i = 0; well && i <= MOST_MEN; i++) {
                passBlanks(text);
                if (place == text.size) {
                    return men > 0 ? NONE : place;
                }
                well = i < MOST_MEN && takeMan(text);
            }
            return place;
        }

        private boolean takeIron(Row text) {
            if (place >= text.size || text.places[place] != COURT_LETTER) {
                return false;
            }
            place++;
            return takeFigure(text, 1, 3) && takeFigure(text, 0, 9) && takeFigure(text, 0, 9)
                    && takeFigure(text, 1, 6);
        }

        private boolean takeMan(Row text) {
            int kind = kindOf(text.places[place]);
            if (kind == NONE) {
                return false;
            }
            take(kind);
            men++;
            return takeFigure(text, 0, 1) && takeFigure(text, 0, 9) && takeFigure(text, 0, 9);
        }

        private boolean takeFigure(Row text, int lowest, int highest) {
            if (place >= text.size) {
                return false;
            }
            int figure = text.places[place] - FIGURE_NOUGHT;
            if (figure < lowest || figure > highest) {
                return false;
            }
            take(figure);
            return true;
        }

        private void take(int number) {
            if (taken < numbers.length) {
                numbers[taken] = number;
                taken++;
            }
            place++;
        }

        private void passBlanks(Row text) {
            while (place < text.size && text.places[place] == BLANK) {
                place++;
            }
        }

        private static int kindOf(int letter) {
            switch (letter) {
                case 'm':
                    return MAN;
                case 'p':
                    return PLOUGHMAN;
                case 'c':
                    return CLERK;
                case 'w':
                    return WOMAN;
                case 'x':
                    return PROXY;
                case 'n':
                    return NEPHEW;
                default:
                    return NONE;
            }
        }
    }

    private static final class Man {
        private int kind;
        private int guilt;
        private int belief;
        private int hand;
        private int salve;
        private int verdict = NONE;
        private boolean wronged;

        void become(int kindOfHim, int guiltOfHim, int beliefOfHim, int handOfHim) {
            kind = kindOfHim;
            guilt = guiltOfHim;
            belief = beliefOfHim;
            hand = handOfHim;
        }

        void forgetDeeds() {
            salve = 0;
            verdict = NONE;
            wronged = false;
        }

        boolean isTried() {
            return verdict != NONE;
        }

        boolean isOf(int wanted) {
            return kind == wanted || wanted == MAN || wanted == PLOUGHMAN && kind == PROXY
                    || wanted == CLERK && kind == NEPHEW;
        }

        int hardness() {
            switch (kind) {
                case PLOUGHMAN:
                    return hand + 3;
                case PROXY:
                    return hand + 5;
                case CLERK:
                case NEPHEW:
                    return hand / 2;
                default:
                    return hand;
            }
        }

        boolean appears(int heat) {
            if (kind == PROXY) {
                return true;
            }
            if (isOf(CLERK) && heat > CLERKS_HEAT || isOf(WOMAN) && heat > WOMANS_HEAT) {
                return false;
            }
            return guilt == 0 || belief < FEARLESS_BELIEF;
        }

        boolean wrongedBy(int toldOfHim) {
            return (toldOfHim == CLEAN) == (guilt == 1);
        }

        int dueByLot() {
            if (!isTried()) {
                return TRYING;
            }
            return salve < MOST_SALVE ? SALVING : IDLING;
        }
    }

    private static final class Deeds {
        private final int[] whats = new int[MOST_DEEDS];
        private final int[] hows = new int[MOST_DEEDS];
        private int size;

        Deeds(int sizeAtFirst) {
            size = sizeAtFirst;
        }

        boolean hasRoomFor(int n) {
            return size <= MOST_DEEDS - n;
        }

        void add(int what, int how) {
            if (hasRoomFor(1)) {
                whats[size] = what;
                hows[size] = how;
                size++;
            }
        }

        void become(Deeds other) {
            for (int n = 0; n < other.size; n++) {
                whats[n] = other.whats[n];
                hows[n] = other.hows[n];
            }
            size = other.size;
        }
    }

    /** The men before the iron, what was done, and what the iron does or would do. */
    private static final class Court {
        private final Man[] men = new Man[MOST_MEN];
        private final Man supposed = new Man();
        private final Deeds deeds = new Deeds(0);
        private int size;
        private int pounds;
        private int mercy;
        private int heals;
        private int king;
        private int heat = FIRST_HEAT;

        Court() {
            for (int i = 0; i < MOST_MEN; i++) {
                men[i] = new Man();
            }
        }

        void assemble(Reader read) {
            int[] numbers = read.numbers;
            pounds = numbers[0];
            mercy = numbers[1];
            heals = numbers[2];
            king = numbers[3];
            size = read.men;
            for (int i = 0; i < size; i++) {
                int first = Reader.OF_THE_IRON + Reader.OF_A_MAN * i;
                men[i].become(numbers[first], numbers[first + 1], numbers[first + 2], numbers[first + 3]);
            }
            deeds.size = 0;
            actAgain();
        }

        int detail(Man one, int what) {
            switch (what) {
                case 0:
                    return one.kind;
                case 1:
                    return one.guilt;
                case 2:
                    return one.belief;
                case 3:
                    return one.hardness();
                case 4:
                    return burn(one, heat);
                case 5:
                    return one.appears(heat) ? 1 : 0;
                case 6:
                    return lacking(one, heat) <= 0 ? 1 : 0;
                case 7:
                    return one.salve;
                default:
                    return one.verdict;
            }
        }

        // -- deeds

        void perform(int what, int how) {
            deeds.add(what, how);
            act(what, how);
        }

        /** All deeds anew, from the first heat on. */
        void actAgain() {
            heat = FIRST_HEAT;
            for (int i = 0; i < size; i++) {
                men[i].forgetDeeds();
            }
            for (int n = 0; n < deeds.size; n++) {
                act(deeds.whats[n], deeds.hows[n]);
            }
        }

        private void act(int what, int how) {
            switch (what) {
                case HEATING:
                    heat = keptHeat(heat + how);
                    break;
                case SALVING:
                    men[how].salve++;
                    break;
                case TRYING:
                    Man one = men[how];
                    one.verdict = verdict(one, heat);
                    one.wronged = one.wrongedBy(one.verdict);
                    heat = heatBehind(one.verdict, toldClean(), heat);
                    break;
                default:
                    break;
            }
        }

        /** The heat behind a trial, if as many as clean were told clean by then. */
        int heatBehind(int verdict, int clean, int ahead) {
            return verdict == CLEAN && clean >= king ? keptHeat(ahead + ANGER) : ahead;
        }

        static int keptHeat(int wanted) {
            return Math.max(0, Math.min(MOST_HEAT, wanted));
        }

        // -- what the iron does

        int felt(Man one, int ironHeat) {
            int felt = ironHeat;
            if (one.belief >= FIRM_BELIEF) {
                felt = ironHeat > mercy ? ironHeat - mercy : 0;
            }
            return one.kind == NEPHEW ? felt / 2 : felt;
        }

        int burn(Man one, int ironHeat) {
            return Math.max(0, pounds * felt(one, ironHeat) - one.hardness());
        }

        /** How much more would have to heal for one to be clean; 0 or less if one is. */
        int lacking(Man one, int ironHeat) {
            return burn(one, ironHeat) - heals - 2 * one.salve;
        }

        int verdict(Man one, int ironHeat) {
            if (!one.appears(ironHeat)) {
                return STAYS_AWAY;
            }
            return lacking(one, ironHeat) > 0 ? FOUL : CLEAN;
        }

        int heatToSpare(Man one) {
            int spare = 0;
            while (heat + spare < MOST_HEAT && lacking(one, heat + spare + 1) <= 0) {
                spare++;
            }
            return spare;
        }

        boolean mustBeCleared(Man one) {
            return !one.isTried() && one.guilt == 0 && one.appears(heat);
        }

        int salveNeeded(Man one) {
            return Math.max(0, (lacking(one, heat) + 1) / 2);
        }

        /** How many of the chances leave one clean, if p of them burn him more. */
        int cleanChances(Man one, int p) {
            int lacking = lacking(one, heat);
            if (lacking > 0) {
                return 0;
            }
            return lacking + BURNS_MORE > 0 ? CHANCES - p : CHANCES;
        }

        // -- what would be, of one supposed

        Man likeOf(Man one) {
            supposed.become(one.kind, one.guilt, one.belief, one.hand);
            supposed.salve = one.salve;
            return supposed;
        }

        Man likeButPlain(Man one) {
            Man plain = likeOf(one);
            plain.kind = MAN;
            return plain;
        }

        boolean wouldTell(Man one, Row heatPairs) {
            for (int place = 0; place + 1 < heatPairs.size; place += 2) {
                if (verdict(one, heatPairs.places[place]) != heatPairs.places[place + 1]) {
                    return false;
                }
            }
            return true;
        }

        // -- heats

        int guiltyWrongly(int ironHeat) {
            int wrongly = 0;
            for (int i = 0; i < size; i++) {
                wrongly += men[i].guilt == 1 && wouldWrong(men[i], ironHeat) ? 1 : 0;
            }
            return wrongly;
        }

        int allWrongly(int ironHeat) {
            int wrongly = 0;
            for (int i = 0; i < size; i++) {
                wrongly += wouldWrong(men[i], ironHeat) ? 1 : 0;
            }
            return wrongly;
        }

        private boolean wouldWrong(Man one, int ironHeat) {
            return !one.isTried() && one.wrongedBy(verdict(one, ironHeat));
        }

        int foulOnes(int ironHeat) {
            int foul = 0;
            for (int i = 0; i < size; i++) {
                foul += !men[i].isTried() && verdict(men[i], ironHeat) == FOUL ? 1 : 0;
            }
            return foul;
        }

        int heatsTelling(Man one, int wanted) {
            int telling = 0;
            for (int h = 0; h < HEATS; h++) {
                telling |= verdict(one, h) == wanted ? 1 << h : 0;
            }
            return telling;
        }

        int heatsFitting(Row manPairs) {
            int fitting = ALL_HEATS;
            for (int place = 0; place + 1 < manPairs.size; place += 2) {
                fitting &= heatsTelling(men[manPairs.places[place]], manPairs.places[place + 1]);
            }
            return fitting;
        }

        int greatestPart(Man one, int heats) {
            int greatest = 0;
            for (int v = 0; v < VERDICTS; v++) {
                greatest = Math.max(greatest, Integer.bitCount(heats & heatsTelling(one, v)));
            }
            return greatest;
        }

        // -- how many

        int absent() {
            int absent = 0;
            for (int i = 0; i < size; i++) {
                absent += men[i].appears(heat) ? 0 : 1;
            }
            return absent;
        }

        int triedOnes() {
            int ones = 0;
            for (int i = 0; i < size; i++) {
                ones |= men[i].isTried() ? 1 << i : 0;
            }
            return ones;
        }

        int toldClean() {
            int clean = 0;
            for (int i = 0; i < size; i++) {
                clean += men[i].verdict == CLEAN ? 1 : 0;
            }
            return clean;
        }

        int toldWrongly() {
            int wrongly = 0;
            for (int i = 0; i < size; i++) {
                wrongly += men[i].wronged ? 1 : 0;
            }
            return wrongly;
        }

        int allSalve() {
            int all = 0;
            for (int i = 0; i < size; i++) {
                all += men[i].salve;
            }
            return all;
        }

        int ploughmen() {
            int ploughmen = 0;
            for (int i = 0; i < size; i++) {
                ploughmen += men[i].isOf(PLOUGHMAN) ? 1 : 0;
            }
            return ploughmen;
        }
    }

    /** Goes through the orders of those not tried, by numbers, for the first that tells the fewest wrongly. */
    private static final class Orders {
        private final int[] path = new int[MOST_MEN];
        private int fewest;

        int layBest(Court court, Row row) {
            int all = (1 << court.size) - 1;
            int left = all & ~court.triedOnes();
            row.layOut(Integer.bitCount(left), 0);
            fewest = MOST_MEN + 1;
            goOn(court, row, left, 0, court.toldClean(), court.heat);
            return fewest;
        }

        // Each level tries one of those left, so that six are the deepest. A path that is no better than an
        // earlier one is left, so that the first of the best ones stays.
        private void goOn(Court court, Row row, int left, int wrongly, int clean, int heat) {
            if (wrongly >= fewest) {
                return;
            }
            if (left == 0) {
                fewest = wrongly;
                System.arraycopy(path, 0, row.places, 0, row.size);
                return;
            }
            int depth = row.size - Integer.bitCount(left);
            for (int i = 0; i < court.size; i++) {
                if ((left & 1 << i) != 0) {
                    Man one = court.men[i];
                    int verdict = court.verdict(one, heat);
                    int wronglyThen = one.wrongedBy(verdict) ? wrongly + 1 : wrongly;
                    int cleanThen = verdict == CLEAN ? clean + 1 : clean;
                    path[depth] = i;
                    goOn(court, row, left & ~(1 << i), wronglyThen, cleanThen,
                            court.heatBehind(verdict, cleanThen, heat));
                }
            }
        }
    }

    /** Weighs each heat by how many are foul at last, turn by turn from the last one back. */
    private static final class Duel {
        private int[] worth = new int[HEATS];
        private int[] worthAhead = new int[HEATS];

        int foulAtLast(Court court, int n) {
            for (int heat = 0; heat < HEATS; heat++) {
                worth[heat] = court.foulOnes(heat);
            }
            for (int turn = n - 1; turn >= 0; turn--) {
                for (int heat = 0; heat < HEATS; heat++) {
                    worthAhead[heat] = chosen(heat, turn % 2 == 0);
                }
                int[] spare = worth;
                worth = worthAhead;
                worthAhead = spare;
            }
            return worth[court.heat];
        }

        private int chosen(int heat, boolean byPriest) {
            int best = worth[heat];
            for (int by = -MOST_STIRRING; by <= MOST_STIRRING; by++) {
                int then = worth[Court.keptHeat(heat + by)];
                best = byPriest ? Math.min(best, then) : Math.max(best, then);
            }
            return best;
        }
    }
}
