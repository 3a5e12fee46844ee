import java.util.ArrayList;
import java.util.Arrays;
import java.util.Collections;
import java.util.LinkedHashMap;
import java.util.List;
import java.util.Map;
import java.util.TreeMap;
import java.util.regex.Matcher;
import java.util.regex.Pattern;

/**
 * A second, slow ThirdDay written from the document alone: it keeps only rows, texts and the list of deeds and
 * works out everything else anew, by going through all cases. ModelTest holds the class against it.
 */
final class Model {
    static final int BAD = -1, FULL = -2, FINDING = -3, STATE = -4, NONE = -9;

    record Man(char letter, int guilt, int belief, int hand) { }

    record Iron(int pounds, int mercy, int heals, int king) { }

    record Deed(char what, int number) { }

    /** A state of the court behind some deeds. */
    static final class Now {
        int heat = 8;
        final int[] salve = new int[6];
        final Map<Integer, Integer> told = new LinkedHashMap<>();
        final Map<Integer, Boolean> wrong = new LinkedHashMap<>();
    }

    private static final String LETTERS = "mpcwxn";

    private final Map<Integer, List<Integer>> rows = new TreeMap<>();
    private final Map<Integer, List<Integer>> texts = new TreeMap<>();
    private final Map<Integer, List<Deed>> kept = new TreeMap<>();
    private Iron iron = new Iron(1, 0, 0, 1);
    private List<Man> men = List.of();
    private List<Deed> deeds = new ArrayList<>();
    private final int[] findings = new int[6];
    private int finding;
    private int asked;
    private long upper;
    private long lower = 1;

    // ---- the iron, as the terms have it

    private int hard(Man man) {
        return switch (man.letter) {
            case 'p' -> man.hand + 3;
            case 'x' -> man.hand + 3 + 2;
            case 'c', 'n' -> man.hand / 2;
            default -> man.hand;
        };
    }

    private int feels(Man man, int heat) {
        int feels = man.belief >= 5 ? Math.max(heat - iron.mercy, 0) : heat;
        return man.letter == 'n' ? feels / 2 : feels;
    }

    private int burns(Man man, int heat) {
        return Math.max(0, iron.pounds * feels(man, heat) - hard(man));
    }

    private boolean clean(Man man, int salve, int heat) {
        return burns(man, heat) <= iron.heals + 2 * salve;
    }

    private boolean comes(Man man, int heat) {
        boolean dares = man.guilt == 0 || man.belief < 3;
        return switch (man.letter) {
            case 'x' -> true;
            case 'c', 'n' -> dares && heat <= 20;
            case 'w' -> dares && heat <= 10;
            default -> dares;
        };
    }

    private int tellsOf(Man man, int salve, int heat) {
        return !comes(man, heat) ? 2 : clean(man, salve, heat) ? 1 : 0;
    }

    private boolean wrongly(Man man, int told) {
        return man.guilt == 1 && told == 1 || man.guilt == 0 && told == 0 || told == 2 && man.guilt == 0;
    }

    // ---- deeds

    private void act(Now now, Deed deed) {
        int i = deed.number;
        switch (deed.what) {
            case 'h' -> now.heat = Math.min(30, Math.max(0, now.heat + i));
            case 's' -> now.salve[i]++;
            case 't' -> {
                int told = tellsOf(men.get(i), now.salve[i], now.heat);
                now.told.put(i, told);
                now.wrong.put(i, wrongly(men.get(i), told));
                if (told == 1 && Collections.frequency(now.told.values(), 1) >= iron.king) {
                    now.heat = Math.min(30, now.heat + 5);
                }
            }
            default -> { }
        }
    }

    private Now now() {
        return behind(List.of());
    }

    private Now behind(List<Deed> more) {
        Now now = new Now();
        deeds.forEach(deed -> act(now, deed));
        more.forEach(deed -> act(now, deed));
        return now;
    }

    private List<Integer> untried() {
        Now now = now();
        List<Integer> left = new ArrayList<>();
        for (int i = 0; i < men.size(); i++) {
            if (!now.told.containsKey(i)) {
                left.add(i);
            }
        }
        return left;
    }

    private int wrongIn(Now now) {
        return Collections.frequency(now.wrong.values(), true);
    }

    // ---- answers

    private int find(int f) {
        finding = f;
        findings[f]++;
        return FINDING;
    }

    private int ask(int answer, int told) {
        asked = told;
        return answer;
    }

    private int fraction(long up, long low) {
        long common = 1;
        for (long d = 2; d <= low; d++) {
            if (up % d == 0 && low % d == 0) {
                common = d;
            }
        }
        upper = up / common;
        lower = low / common;
        return 1;
    }

    private boolean in(int n, int least, int most) {
        return n >= least && n <= most;
    }

    private boolean isMan(int i) {
        return in(i, 0, men.size() - 1);
    }

    // ---- 1

    int row(int r, int n) {
        return make(rows, in(r, 0, 5) && n <= 40, r, n, 0);
    }

    int text(int t, int n) {
        return make(texts, in(t, 0, 3) && n <= 60, t, n, 32);
    }

    private int make(Map<Integer, List<Integer>> where, boolean well, int r, int n, int v) {
        if (!well) {
            return BAD;
        }
        if (n < 0) {
            return find(5);
        }
        where.put(r, new ArrayList<>(Collections.nCopies(n, v)));
        return n;
    }

    int lay(int r, int i, int v) {
        int at = at(r, i);
        if (at == 1) {
            rows.get(r).set(i, v);
        }
        return at;
    }

    int at(int r, int i) {
        if (!in(r, 0, 5)) {
            return BAD;
        }
        if (!rows.containsKey(r)) {
            return find(1);
        }
        return in(i, 0, rows.get(r).size() - 1) ? ask(1, rows.get(r).get(i)) : find(2);
    }

    int tear(int r) {
        if (!in(r, 0, 5)) {
            return BAD;
        }
        return rows.remove(r) == null ? find(1) : 1;
    }

    int copy(int r, int i, int to, int j, int n) {
        if (!in(r, 0, 5) || !in(to, 0, 5)) {
            return BAD;
        }
        if (n < 0) {
            return find(5);
        }
        List<Integer> from = rows.get(r);
        List<Integer> onto = rows.get(to);
        if (from == null || onto == null) {
            return find(1);
        }
        if (i < 0 || (long) i + n > from.size() || j < 0 || (long) j + n > onto.size()) {
            return find(2);
        }
        List<Integer> taken = new ArrayList<>(from.subList(i, i + n));
        for (int k = 0; k < n; k++) {
            onto.set(j + k, taken.get(k));
        }
        return 1;
    }

    int mean(int r) {
        if (!in(r, 0, 5)) {
            return BAD;
        }
        if (!rows.containsKey(r)) {
            return find(1);
        }
        if (rows.get(r).isEmpty()) {
            return find(4);
        }
        long sum = rows.get(r).stream().mapToLong(v -> v).sum();
        return ask(1, (int) (sum / rows.get(r).size()));
    }

    int put(int t, int i, int v) {
        if (!in(t, 0, 3)) {
            return BAD;
        }
        if (!texts.containsKey(t)) {
            return find(1);
        }
        if (!in(i, 0, texts.get(t).size() - 1)) {
            return find(2);
        }
        return texts.get(t).set(i, (int) (byte) v) + 1000;
    }

    private String written(int t) {
        StringBuilder sb = new StringBuilder();
        texts.get(t).forEach(b -> sb.append((char) (b & 255)));
        return sb.toString();
    }

    /** The longest start of a text that some court begins with tells the place of the fault. */
    private int faultOf(String text) {
        if (Pattern.matches(" *i[1-3][0-9]{2}[1-6](?: *[mpcwxn][01][0-9]{2}){1,6} *", text)) {
            return NONE;
        }
        String man = "(?:[mpcwxn](?:[01](?:[0-9](?:[0-9])?)?)?)?";
        String whole = " *[mpcwxn][01][0-9]{2}";
        Matcher first = Pattern.compile(" *(?:i(?:[1-3](?:[0-9](?:[0-9]([1-6])?)?)?)?)?").matcher(text);
        first.lookingAt();
        if (first.group(1) == null) {
            return first.end();
        }
        Matcher rest = Pattern.compile("(?:" + whole + "){0,6} *").matcher(text).region(first.end(), text.length());
        rest.lookingAt();
        int end = rest.end();
        int count = text.substring(first.end(), end).replaceAll("[^mpcwxn]", "").length();
        if (count < 6) {
            Matcher begun = Pattern.compile(man).matcher(text).region(end, text.length());
            begun.lookingAt();
            end = begun.end();
        }
        return end;
    }

    int fault(int t) {
        if (!in(t, 0, 3)) {
            return BAD;
        }
        return texts.containsKey(t) ? faultOf(written(t)) : find(1);
    }

    int court(int t) {
        int fault = fault(t);
        if (fault == BAD || fault == FINDING) {
            return fault;
        }
        if (fault != NONE) {
            return STATE;
        }
        String signs = written(t).replace(" ", "");
        iron = new Iron(signs.charAt(1) - '0', signs.charAt(2) - '0', signs.charAt(3) - '0', signs.charAt(4) - '0');
        List<Man> read = new ArrayList<>();
        for (int k = 5; k < signs.length(); k += 4) {
            read.add(new Man(signs.charAt(k), signs.charAt(k + 1) - '0', signs.charAt(k + 2) - '0',
                    signs.charAt(k + 3) - '0'));
        }
        men = read;
        deeds = new ArrayList<>();
        kept.clear();
        return men.size();
    }

    private int detail(int i, int what) {
        Now now = now();
        Man man = men.get(i);
        return switch (what) {
            case 0 -> LETTERS.indexOf(man.letter);
            case 1 -> man.guilt;
            case 2 -> man.belief;
            case 3 -> hard(man);
            case 4 -> burns(man, now.heat);
            case 5 -> comes(man, now.heat) ? 1 : 0;
            case 6 -> clean(man, now.salve[i], now.heat) ? 1 : 0;
            case 7 -> now.salve[i];
            default -> now.told.getOrDefault(i, NONE);
        };
    }

    int man(int i, int what) {
        return isMan(i) && in(what, 0, 8) ? ask(1, detail(i, what)) : BAD;
    }

    int mark(int i, int kind) {
        if (!isMan(i) || !in(kind, 1, 5)) {
            return BAD;
        }
        Now now = now();
        Man man = men.get(i);
        String those = List.of("", "px", "cn", "w", "x", "n").get(kind);
        if (those.indexOf(man.letter) < 0) {
            return find(3);
        }
        Man plain = new Man('m', man.guilt, man.belief, man.hand);
        switch (kind) {
            case 1:
                int most = now.heat;
                for (int h = now.heat; h <= 30; h++) {
                    most = clean(man, now.salve[i], h) ? h : most;
                }
                return clean(man, now.salve[i], now.heat) ? most - now.heat : 0;
            case 2:
                return hard(plain) - hard(man);
            case 3:
                return now.heat > 10 ? now.heat - 10 : 0;
            case 4:
                int away = 0;
                for (int k = 0; k < men.size(); k++) {
                    away += k != i && !comes(men.get(k), now.heat) ? 1 : 0;
                }
                return away;
            default:
                return feels(plain, now.heat) - feels(man, now.heat);
        }
    }

    // ---- 2

    int heat(int by) {
        if (by == 0 || !in(by, -5, 5)) {
            return BAD;
        }
        return men.isEmpty() ? STATE : deed('h', by) ? now().heat : FULL;
    }

    int salve(int i) {
        if (!isMan(i)) {
            return BAD;
        }
        if (now().salve[i] == 3 || now().told.containsKey(i)) {
            return STATE;
        }
        return deed('s', i) ? now().salve[i] : FULL;
    }

    int trial(int i) {
        if (!isMan(i)) {
            return BAD;
        }
        if (now().told.containsKey(i)) {
            return STATE;
        }
        return deed('t', i) ? ask(now().told.get(i), now().wrong.get(i) ? 1 : 0) : FULL;
    }

    private boolean deed(char what, int number) {
        return deeds.size() < 40 && deeds.add(new Deed(what, number));
    }

    int undo(int n) {
        if (!in(n, 0, deeds.size())) {
            return BAD;
        }
        int undone = deeds.size() - n;
        deeds = new ArrayList<>(deeds.subList(0, n));
        return undone;
    }

    int keep(int k) {
        if (!in(k, 0, 2)) {
            return BAD;
        }
        if (men.isEmpty()) {
            return STATE;
        }
        kept.put(k, List.copyOf(deeds));
        return deeds.size();
    }

    int on(int k) {
        if (!in(k, 0, 2)) {
            return BAD;
        }
        if (!kept.containsKey(k)) {
            return find(1);
        }
        deeds = new ArrayList<>(kept.get(k));
        return deeds.size();
    }

    // ---- 3

    int comes() {
        if (men.isEmpty()) {
            return STATE;
        }
        Now now = now();
        int come = 0;
        int clean = 0;
        for (int i : untried()) {
            if (comes(men.get(i), now.heat)) {
                come += 1 << i;
                clean += clean(men.get(i), now.salve[i], now.heat) ? 1 << i : 0;
            }
        }
        return ask(come, clean);
    }

    private List<Integer> wrongBy(int heat) {
        Now now = now();
        return untried().stream().filter(i -> wrongly(men.get(i), tellsOf(men.get(i), now.salve[i], heat))).toList();
    }

    int wrong(int heat) {
        if (!in(heat, 0, 30)) {
            return BAD;
        }
        if (men.isEmpty()) {
            return STATE;
        }
        List<Integer> wrong = wrongBy(heat);
        return ask(wrong.size(), (int) wrong.stream().filter(i -> men.get(i).guilt == 1).count());
    }

    int best() {
        if (men.isEmpty()) {
            return STATE;
        }
        int best = 30;
        for (int heat = 30; heat >= 0; heat--) {
            best = wrongBy(heat).size() <= wrongBy(best).size() ? heat : best;
        }
        return ask(best, wrongBy(best).size());
    }

    int heats(int i, int v) {
        return isMan(i) && in(v, 0, 2) ? heatBits(i, v) : BAD;
    }

    private int heatBits(int i, int v) {
        int bits = 0;
        for (int heat = 0; heat <= 30; heat++) {
            bits += tellsOf(men.get(i), now().salve[i], heat) == v ? 1 << heat : 0;
        }
        return bits;
    }

    int tells(int heat) {
        if (!in(heat, 0, 30)) {
            return BAD;
        }
        if (men.isEmpty()) {
            return STATE;
        }
        Now now = now();
        List<Integer> clean = untried().stream()
                .filter(i -> tellsOf(men.get(i), now.salve[i], heat) == 1).toList();
        return clean.isEmpty() ? fraction(0, 1)
                : fraction(clean.stream().filter(i -> men.get(i).guilt == 1).count(), clean.size());
    }

    // ---- 4

    private Now behindTrials(List<Integer> row) {
        return behind(row.stream().map(i -> new Deed('t', i)).toList());
    }

    private void orders(List<Integer> path, List<Integer> left, List<List<Integer>> all) {
        if (left.isEmpty()) {
            all.add(List.copyOf(path));
        }
        for (Integer i : left) {
            List<Integer> rest = new ArrayList<>(left);
            rest.remove(i);
            path.add(i);
            orders(path, rest, all);
            path.remove(path.size() - 1);
        }
    }

    int order(int r) {
        if (!in(r, 0, 5)) {
            return BAD;
        }
        if (men.isEmpty()) {
            return STATE;
        }
        List<List<Integer>> all = new ArrayList<>();
        orders(new ArrayList<>(), untried(), all);
        int before = wrongIn(now());
        int fewest = 99;
        for (List<Integer> one : all) {
            int wrong = wrongIn(behindTrials(one)) - before;
            if (wrong < fewest) {
                fewest = wrong;
                rows.put(r, new ArrayList<>(one));
            }
        }
        return fewest;
    }

    int tried(int r) {
        if (!in(r, 0, 5)) {
            return BAD;
        }
        if (men.isEmpty()) {
            return STATE;
        }
        List<Integer> row = rows.get(r);
        if (row == null) {
            return find(1);
        }
        if (row.size() > 6) {
            return find(5);
        }
        if (!untried().containsAll(row) || row.stream().distinct().count() < row.size()) {
            return find(3);
        }
        Now then = behindTrials(row);
        return ask(wrongIn(then) - wrongIn(now()), then.heat);
    }

    int least() {
        if (men.isEmpty()) {
            return STATE;
        }
        Now now = now();
        int all = 0;
        int needy = 0;
        for (int i : untried()) {
            Man man = men.get(i);
            if (man.guilt == 1 || !comes(man, now.heat)) {
                continue;
            }
            int salve = now.salve[i];
            while (salve <= 3 && !clean(man, salve, now.heat)) {
                salve++;
            }
            if (salve > 3) {
                return NONE;
            }
            all += salve - now.salve[i];
            needy += salve > now.salve[i] ? 1 : 0;
        }
        return ask(all, needy);
    }

    // ---- 5

    private int pairs(List<Integer> row, int most) {
        if (row == null) {
            return find(1);
        }
        if (row.size() % 2 == 1) {
            return find(5);
        }
        for (int k = 0; k < row.size(); k += 2) {
            if (!in(row.get(k), 0, most) || !in(row.get(k + 1), 0, 2)) {
                return find(3);
            }
        }
        return 1;
    }

    private int fitting(int r) {
        int bits = Integer.MAX_VALUE;
        for (int k = 0; k < rows.get(r).size(); k += 2) {
            bits &= heatBits(rows.get(r).get(k), rows.get(r).get(k + 1));
        }
        return bits;
    }

    private int fitsWell(int r) {
        return !in(r, 0, 5) ? BAD : men.isEmpty() ? STATE : pairs(rows.get(r), men.size() - 1);
    }

    int fits(int r) {
        int well = fitsWell(r);
        return well == 1 ? ask(fitting(r), Integer.bitCount(fitting(r))) : well;
    }

    int ask(int r) {
        int well = fitsWell(r);
        if (well != 1) {
            return well;
        }
        int fitting = fitting(r);
        if (fitting == 0) {
            return NONE;
        }
        int[] parts = new int[men.size()];
        for (int i = 0; i < men.size(); i++) {
            for (int v = 0; v <= 2; v++) {
                parts[i] = Math.max(parts[i], Integer.bitCount(fitting & heatBits(i, v)));
            }
        }
        int least = Arrays.stream(parts).min().orElseThrow();
        int man = 0;
        while (parts[man] > least) {
            man++;
        }
        return ask(man, least);
    }

    private boolean couldBe(Man man, int salve, List<Integer> row) {
        boolean could = true;
        for (int k = 0; k < row.size(); k += 2) {
            could &= tellsOf(man, salve, row.get(k)) == row.get(k + 1);
        }
        return could;
    }

    int hands(int i, int r) {
        if (!isMan(i) || !in(r, 0, 5)) {
            return BAD;
        }
        if (pairs(rows.get(r), 30) != 1) {
            return FINDING;
        }
        Man m = men.get(i);
        int bits = 0;
        for (int hand = 0; hand <= 9; hand++) {
            bits += couldBe(new Man(m.letter, m.guilt, m.belief, hand), now().salve[i], rows.get(r)) ? 1 << hand : 0;
        }
        return bits;
    }

    int kinds(int i, int r) {
        if (!isMan(i) || !in(r, 0, 5)) {
            return BAD;
        }
        if (pairs(rows.get(r), 30) != 1) {
            return FINDING;
        }
        Man m = men.get(i);
        int bits = 0;
        for (int kind = 0; kind <= 5; kind++) {
            Man other = new Man(LETTERS.charAt(kind), m.guilt, m.belief, m.hand);
            bits += couldBe(other, now().salve[i], rows.get(r)) ? 1 << kind : 0;
        }
        return bits;
    }

    // ---- 6

    private int play(int[] foul, int heat, int turn, int n) {
        if (turn == n) {
            return foul[heat];
        }
        int best = -1;
        for (int then = Math.max(0, heat - 3); then <= Math.min(30, heat + 3); then++) {
            int value = play(foul, then, turn + 1, n);
            boolean better = turn % 2 == 0 ? value < best : value > best;
            best = best == -1 || better ? value : best;
        }
        return best;
    }

    int duel(int n) {
        if (!in(n, 0, 6)) {
            return BAD;
        }
        if (men.isEmpty()) {
            return STATE;
        }
        int[] foul = new int[31];
        Now now = now();
        for (int i : untried()) {
            for (int heat = 0; heat <= 30; heat++) {
                foul[heat] += tellsOf(men.get(i), now.salve[i], heat) == 0 ? 1 : 0;
            }
        }
        return play(foul, now.heat, 0, n);
    }

    // ---- 7

    /** All ways in which those who come can be burnt: their weight by the twelfths, and how many are clean. */
    private int chances(int p, boolean all) {
        if (!in(p, 0, 12)) {
            return BAD;
        }
        if (men.isEmpty()) {
            return STATE;
        }
        Now now = now();
        List<Integer> who = untried().stream().filter(i -> comes(men.get(i), now.heat))
                .filter(i -> all || men.get(i).guilt == 0).toList();
        long good = 0;
        long cleanInAll = 0;
        long whole = 0;
        for (int more = 0; more < 1 << who.size(); more++) {
            long weight = 1;
            int clean = 0;
            for (int k = 0; k < who.size(); k++) {
                boolean burnsMore = (more & 1 << k) != 0;
                int i = who.get(k);
                weight *= burnsMore ? p : 12 - p;
                int burns = burns(men.get(i), now.heat) + (burnsMore ? 3 : 0);
                clean += burns <= iron.heals + 2 * now.salve[i] ? 1 : 0;
            }
            good += clean == who.size() ? weight : 0;
            cleanInAll += clean * weight;
            whole += weight;
        }
        return fraction(all ? cleanInAll : good, whole);
    }

    int odds(int p) {
        return chances(p, false);
    }

    int mid(int p) {
        return chances(p, true);
    }

    int lots(int n, int seed) {
        if (!in(n, 1, 20) || !in(seed, 1, 2147483646)) {
            return BAD;
        }
        if (men.isEmpty()) {
            return STATE;
        }
        if (deeds.size() + n > 40) {
            return FULL;
        }
        int before = wrongIn(now());
        long it = seed;
        for (int k = 0; k < n; k++) {
            it = it * 48271 % 2147483647;
            int cut = (int) it / 8;
            int i = cut % men.size();
            Now now = now();
            if (it % 3 == 0) {
                deeds.add(new Deed('h', cut % 11 - 5));
            } else if (!now.told.containsKey(i)) {
                deeds.add(new Deed('t', i));
            } else {
                deeds.add(new Deed(now.salve[i] < 3 ? 's' : '-', i));
            }
        }
        return wrongIn(now()) - before;
    }

    // ---- 8

    int asked() {
        return asked;
    }

    long upper() {
        return upper;
    }

    long lower() {
        return lower;
    }

    int count(int what) {
        Now now = now();
        return switch (what) {
            case 0 -> men.size();
            case 1 -> now.heat;
            case 2 -> deeds.size();
            case 3 -> now.told.keySet().stream().mapToInt(i -> 1 << i).sum();
            case 4 -> Collections.frequency(now.told.values(), 1);
            case 5 -> wrongIn(now);
            case 6 -> Arrays.stream(now.salve).sum();
            case 7 -> (int) men.stream().filter(m -> m.letter == 'p' || m.letter == 'x').count();
            case 8 -> rows.size();
            case 9 -> texts.size();
            case 10 -> kept.size();
            default -> BAD;
        };
    }

    int finding() {
        return finding;
    }

    int findings(int f) {
        return in(f, 1, 5) ? findings[f] : BAD;
    }

    long digest() {
        List<Integer> all = new ArrayList<>();
        for (int what = 0; what <= 10; what++) {
            all.add(count(what));
        }
        for (int i = 0; i < men.size(); i++) {
            for (int what = 0; what <= 8; what++) {
                all.add(detail(i, what));
            }
        }
        for (int k = 0; k <= 2; k++) {
            all.add(kept.containsKey(k) ? kept.get(k).size() : -1);
        }
        for (int r = 0; r <= 5; r++) {
            all.add(rows.containsKey(r) ? rows.get(r).size() : -1);
            all.addAll(rows.getOrDefault(r, List.of()));
        }
        for (int t = 0; t <= 3; t++) {
            all.add(texts.containsKey(t) ? texts.get(t).size() : -1);
            all.addAll(texts.getOrDefault(t, List.of()));
        }
        long h = 17;
        for (int v : all) {
            h = 31 * h + v;
        }
        return h;
    }
}
