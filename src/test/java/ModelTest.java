import java.lang.reflect.Method;
import java.util.ArrayList;
import java.util.Arrays;
import java.util.Comparator;
import java.util.List;
import java.util.Random;

/** Runs of calls by lots of fixed seeds, each answered by ThirdDay and by Model, and the answers held together. */
final class ModelTest {
    private static final int RUNS = 1500, CALLS = 500;
    private static final int[] EXTREMES = {Integer.MIN_VALUE, Integer.MAX_VALUE, -1, 0, 1, -1000, 1 << 30};

    private final Check check = new Check("ModelTest");
    private final List<Method> calls = new ArrayList<>();
    private Random random;
    private ThirdDay day;
    private Model model;
    private int left;
    private final StringBuilder story = new StringBuilder();

    private ModelTest() {
        for (Method method : ThirdDay.class.getDeclaredMethods()) {
            if (java.lang.reflect.Modifier.isPublic(method.getModifiers())) {
                calls.add(method);
            }
        }
        calls.sort(Comparator.comparing(Method::getName));
    }

    public static void main(String[] args) throws ReflectiveOperationException {
        ModelTest test = new ModelTest();
        for (int run = 0; run < RUNS && !test.check.failed(); run++) {
            test.run(run);
        }
        test.check.end();
    }

    private void run(int seed) throws ReflectiveOperationException {
        random = new Random(seed);
        day = new ThirdDay();
        model = new Model();
        left = CALLS;
        story.setLength(0);
        boolean early = seed % 5 == 0;
        while (left > 0 && !check.failed()) {
            int lot = random.nextInt(100);
            if (lot < 3 || !early && model.count(0) == 0) {
                writeCourt(random.nextInt(8) == 0);
            } else if (lot < 9) {
                writePairs();
            } else if (lot < 12) {
                writeOrder();
            } else {
                callAny();
            }
        }
        if (check.failed()) {
            System.out.println("run " + seed + ":" + story);
        }
    }

    private void call(String name, int... args) throws ReflectiveOperationException {
        for (Method method : calls) {
            if (method.getName().equals(name) && left > 0) {
                callBoth(method, args);
            }
        }
    }

    private void callBoth(Method method, int[] args) throws ReflectiveOperationException {
        left--;
        Object[] boxed = Arrays.stream(args).boxed().toArray();
        story.append(' ').append(method.getName()).append(Arrays.toString(args));
        Method same = Model.class.getDeclaredMethod(method.getName(), method.getParameterTypes());
        long due = ((Number) same.invoke(model, boxed)).longValue();
        check.due(method.getName() + Arrays.toString(args), ((Number) method.invoke(day, boxed)).longValue(), due);
        check.due("asked behind it", day.asked(), model.asked());
        check.due("upper behind it", day.upper(), model.upper());
        check.due("lower behind it", day.lower(), model.lower());
        check.due("finding behind it", day.finding(), model.finding());
        if (left % 8 == 0) {
            check.due("digest behind it", day.digest(), model.digest());
            for (int f = 0; f <= 6; f++) {
                check.due("findings(" + f + ") behind it", day.findings(f), model.findings(f));
            }
        }
    }

    private int between(int least, int most) {
        return least + random.nextInt(most - least + 1);
    }

    private char figure(int least, int most) {
        return (char) ('0' + between(least, most));
    }

    private String blanks() {
        return " ".repeat(Math.max(0, between(-3, 2)));
    }

    private void writeCourt(boolean spoilt) throws ReflectiveOperationException {
        StringBuilder text = new StringBuilder(blanks());
        text.append('i').append(figure(1, 3)).append(figure(0, 9)).append(figure(0, 9)).append(figure(1, 6));
        int men = spoilt ? between(0, 7) : between(1, 6);
        for (int i = 0; i < men; i++) {
            text.append(blanks()).append("mpcwxn".charAt(random.nextInt(6))).append(figure(0, 1));
            text.append(figure(0, 9)).append(figure(0, 9));
        }
        text.append(blanks());
        if (spoilt) {
            int place = random.nextInt(text.length());
            switch (random.nextInt(4)) {
                case 0 -> text.setCharAt(place, "impcwxnz0129/:\u00ff ".charAt(random.nextInt(16)));
                case 1 -> text.setLength(place);
                case 2 -> text.insert(place, ' ');
                default -> text.deleteCharAt(place);
            }
        }
        int t = random.nextInt(4);
        call("text", t, text.length());
        for (int i = 0; i < text.length(); i++) {
            if (text.charAt(i) != ' ') {
                call("put", t, i, text.charAt(i));
            }
        }
        call("fault", t);
        call("court", t);
    }

    private void writePairs() throws ReflectiveOperationException {
        int r = random.nextInt(6);
        int n = 2 * between(0, 4);
        boolean heats = random.nextBoolean();
        int i = random.nextInt(6);
        int about = random.nextInt(31);
        call("row", r, n);
        for (int k = 0; k + 1 < n; k += 2) {
            int of = heats ? random.nextInt(31) : random.nextInt(Math.max(1, model.count(0)));
            call("lay", r, k, of);
            boolean truly = model.count(0) > i && random.nextInt(6) > 0;
            call("lay", r, k + 1, truly ? truth(heats ? i : of, heats ? of : about) : random.nextInt(3));
        }
        call("fits", r);
        call("ask", r);
        call("hands", i, r);
        call("kinds", i, r);
    }

    /** What one would tell by a heat, so that rows of pairs fit some heat, hand, or kind. */
    private int truth(int i, int heat) {
        for (int v = 0; v <= 2; v++) {
            int bits = model.heats(i, v);
            if (bits > 0 && (bits >> heat & 1) == 1) {
                return v;
            }
        }
        return 0;
    }

    private void writeOrder() throws ReflectiveOperationException {
        int r = random.nextInt(6);
        call("order", r);
        for (int k = 0; k < 3; k++) {
            call("copy", r, random.nextInt(3), r, random.nextInt(6), between(0, 2));
        }
        call("tried", r);
    }

    private void callAny() throws ReflectiveOperationException {
        Method method = calls.get(random.nextInt(calls.size()));
        boolean tooStrong = method.getName().equals("court") || method.getName().equals("undo");
        if (tooStrong && random.nextInt(3) > 0) {
            return;
        }
        int[] args = new int[method.getParameterCount()];
        for (int k = 0; k < args.length; k++) {
            boolean extreme = random.nextInt(25) == 0;
            args[k] = extreme ? EXTREMES[random.nextInt(EXTREMES.length)] : argument(method.getName(), k);
        }
        callBoth(method, args);
    }

    private int argument(String name, int k) {
        return switch (name + k) {
            case "row1" -> random.nextInt(8) == 0 ? between(-1, 41) : between(0, 8);
            case "text1" -> between(-1, 61);
            case "lay1", "at1", "copy1", "copy3" -> between(-1, 8);
            case "copy4" -> between(-1, 4);
            case "lay2" -> random.nextInt(4) == 0 ? random.nextInt() : between(-1, 31);
            case "put1" -> between(-1, 30);
            case "put2" -> random.nextInt(4) == 0 ? between(-300, 300) : between(32, 60);
            case "heat0" -> between(-6, 6);
            case "undo0" -> between(model.count(2) / 2, model.count(2) + 1);
            case "wrong0", "tells0" -> between(-1, 31);
            case "man1", "count0" -> between(-1, 11);
            case "odds0", "mid0" -> between(-1, 13);
            case "heats1" -> between(-1, 3);
            case "lots0" -> between(0, 21);
            case "lots1" -> between(0, Integer.MAX_VALUE - 1);
            case "keep0", "on0" -> between(-1, 3);
            case "text0", "put0", "fault0", "court0" -> between(-1, 4);
            default -> between(-1, 6);
        };
    }
}
