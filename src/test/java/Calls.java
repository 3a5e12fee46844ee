import java.util.ArrayList;
import java.util.List;
import java.util.function.IntSupplier;
import java.util.function.IntUnaryOperator;

/** One object of ThirdDay, and looks at what its calls answer and what they leave as it was. */
abstract class Calls {
    static final int BAD = -1, FULL = -2, FINDING = -3, STATE = -4, SPENT = -6, NONE = -9;
    static final int NOTHING = 1, BEYOND = 2, UNLIKE = 3, NOUGHT = 4, SIZE = 5;
    static final int LEAST = Integer.MIN_VALUE, MOST = Integer.MAX_VALUE, ALL_HEATS = 2147483647;
    static final int MOST_HEAT = 30, MOST_DEEDS = 40;
    static final String SIX = "i1342 m024 p163 c056 w125 x194 n037";
    private static final int COURTS_TEXT = 3;

    final Check check;
    ThirdDay x = new ThirdDay();
    private String label = "";

    Calls(String test) {
        check = new Check(test);
    }

    /** All that can be seen of an object and that a refused call leaves as it was. */
    private record Seen(long digest, int asked, long upper, long lower, int finding, List<Integer> findings) {
        static Seen of(ThirdDay x) {
            List<Integer> findings = new ArrayList<>();
            for (int f = NOTHING; f <= SIZE; f++) {
                findings.add(x.findings(f));
            }
            return new Seen(x.digest(), x.asked(), x.upper(), x.lower(), x.finding(), findings);
        }

        Seen behind(int found) {
            List<Integer> then = new ArrayList<>(findings);
            then.set(found - NOTHING, then.get(found - NOTHING) + 1);
            return new Seen(digest, asked, upper, lower, found, then);
        }
    }

    /** What is looked at from here on, on a new object. */
    final void begin(String what) {
        label = what;
        x = new ThirdDay();
    }

    // ---- looks

    final void due(String what, long got, long want) {
        check.due(label + ": " + what, got, want);
    }

    /** A call that tells by asked(). */
    final void asks(String what, long got, long want, int told) {
        due(what, got, want);
        due("asked() behind " + what, x.asked(), told);
    }

    final void fraction(String what, long got, long upper, long lower) {
        due(what, got, 1);
        due("upper() behind " + what, x.upper(), upper);
        due("lower() behind " + what, x.lower(), lower);
    }

    private void seen(String what, Seen want) {
        Seen got = Seen.of(x);
        check.holds(label + ": behind " + what + " is " + got + ", due is " + want, got.equals(want));
    }

    /** A refusal by a finding: it changes nothing but finding() and findings(). */
    final void finds(String what, IntSupplier call, int finding) {
        Seen before = Seen.of(x);
        due(what, call.getAsInt(), FINDING);
        seen(what, before.behind(finding));
    }

    /** Any other call that changes nothing that can be seen. */
    final void leaves(String what, IntSupplier call, int answer) {
        Seen before = Seen.of(x);
        due(what, call.getAsInt(), answer);
        seen(what, before);
    }

    /** Any other refusal: it changes nothing. */
    final void refuses(String what, IntSupplier call, int answer) {
        leaves(what, call, answer);
    }

    /** Each number that is none of least to most is BAD. */
    final void badBeside(int least, int most, String what, IntUnaryOperator call) {
        for (int n : new int[] {LEAST, least - 1, most + 1, MOST}) {
            refuses(what + " of " + n, () -> call.applyAsInt(n), BAD);
        }
    }

    /** There are no places but 0 to size - 1. */
    final void beyond(int size, String what, IntUnaryOperator call) {
        for (int i : new int[] {LEAST, -1, size, size + 1, MOST}) {
            finds(what + " of place " + i, () -> call.applyAsInt(i), BEYOND);
        }
    }

    // ---- what is laid ahead of a look

    final void text(int t, String text) {
        x.text(t, text.length());
        for (int i = 0; i < text.length(); i++) {
            if (text.charAt(i) != ' ') {
                x.put(t, i, text.charAt(i));
            }
        }
    }

    final void court(String text) {
        text(COURTS_TEXT, text);
        due("court(" + text + ")", x.court(COURTS_TEXT) > 0 ? 1 : 0, 1);
    }

    final void row(int r, int... values) {
        x.row(r, values.length);
        for (int i = 0; i < values.length; i++) {
            x.lay(r, i, values[i]);
        }
    }

    final void holds(int r, int... values) {
        for (int i = 0; i < values.length; i++) {
            asks("at(" + r + ", " + i + ")", x.at(r, i), 1, values[i]);
        }
        due("at behind the row's end", x.at(r, values.length), FINDING);
    }

    /** A text's fault, and whether a court comes of it. */
    final void fault(String text, int place) {
        text(0, text);
        due("fault of '" + text + "'", x.fault(0), place);
        due("court of '" + text + "'", x.court(0), place == NONE ? x.count(0) : STATE);
    }

    /** So many deeds more, which leave the heat as it is, if they are even and it is below 30. */
    final void fill(int n) {
        for (int k = 0; k < n; k++) {
            x.heat(k % 2 == 0 ? 1 : -1);
        }
    }

    final void heatTo(int wanted) {
        for (int k = 0; k < MOST_DEEDS && x.count(1) != wanted; k++) {
            x.heat(Math.max(-5, Math.min(5, wanted - x.count(1))));
        }
    }
}
