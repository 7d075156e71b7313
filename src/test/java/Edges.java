import java.io.IOException;
import java.math.BigInteger;
import java.nio.file.Files;
import java.nio.file.Path;
import java.util.ArrayList;
import java.util.Arrays;
import java.util.List;
import java.util.Map;
import java.util.TreeMap;

/**
 * Tests by the sentences of the document: each names the section and the words that it holds the class to, and the
 * words are looked for in the document. Twins, made by the same calls, tell what one more call has changed.
 */
final class Edges {
    static final int NONE = LentShades.NONE, BAD = LentShades.BAD, NO = LentShades.NO, FULL = LentShades.FULL;
    static final int BADS = 0, NOES = 1, FULLS = 2;
    private static final String[] COUNTERS = {"BAD", "NO", "FULL"};

    /** A new object and the calls that bring it somewhere: alike each time. */
    interface State {
        LentShades make();
    }

    interface Call {
        long on(LentShades x);
    }

    interface CallOf {
        long on(LentShades x, int v);
    }

    private final Map<String, String> sections = new TreeMap<>();
    private final Map<String, boolean[]> quoted = new TreeMap<>();
    private final boolean documentIsThere;
    private String at = "";
    private int sentences, wrongSentences, wrong;

    /** Without the document the answers are looked at all the same. */
    Edges(Path document) throws IOException {
        documentIsThere = Files.isReadable(document);
        if (!documentIsThere) {
            System.out.println("  no document at " + document + ": its words are not looked for");
            return;
        }
        for (String part : Files.readString(document).split("(?m)^#+ ")) {
            int end = part.indexOf('\n');
            String name = part.substring(0, Math.max(0, end)).replaceAll("^(Promise [0-9]+):.*", "$1");
            // What the interface says ahead of calls, and the numbers of the parts, is no promise.
            String text = part.substring(Math.max(0, end))
                    .replaceAll("(?m)^Ahead of the calls .*$|^=+ [0-9] ", "").replaceAll("`[^`\\n]+`|```text|```", "");
            sections.put(name, text);
            quoted.put(name, new boolean[text.length()]);
        }
    }

    /** One test: of these words of the document, at this edge. */
    void sentence(String section, String words, String edge, Runnable test) {
        at = section + ": \"" + words + "\", " + edge;
        int before = wrong;
        sentences++;
        quote(section, words);
        test.run();
        if (wrong != before) {
            wrongSentences++;
        }
        System.out.println((wrong == before ? "  ok    " : "  FAIL  ") + at);
    }

    private void quote(String section, String words) {
        if (!documentIsThere) {
            return;
        }
        String text = sections.getOrDefault(section, "");
        int from = text.indexOf(words);
        if (from < 0) {
            wrong++;
            System.out.println("  the document does not say this: " + at);
            return;
        }
        Arrays.fill(quoted.get(section), from, from + words.length(), true);
    }

    /** What no test has quoted of 'Terms' and of the promises. */
    void nothingIsLeftOut() {
        for (Map.Entry<String, String> section : sections.entrySet()) {
            if (section.getKey().matches("Terms|Promise [0-9]+")) {
                StringBuilder left = new StringBuilder();
                for (int k = 0; k < section.getValue().length(); k++) {
                    left.append(quoted.get(section.getKey())[k] ? '\n' : section.getValue().charAt(k));
                }
                String bare = left.toString().replaceAll("(?m)^[ \\n.,;:()=]*|[ .,;:()=]+$", "");
                if (!bare.isBlank()) {
                    wrong++;
                    System.out.println("  not quoted of " + section.getKey() + ": " + bare);
                }
            }
        }
    }

    void end(String name) {
        System.out.println(name + ": " + sentences + " tests of sentences, "
                + (wrong == 0 ? "all hold" : wrongSentences + " do not hold"));
        System.exit(wrong == 0 ? 0 : 1);
    }

    void due(String what, long got, long want) {
        if (got != want) {
            wrong++;
            System.out.println("  " + at + ": " + what + " answered " + got + ", due is " + want);
        }
    }

    /** THE FRACTION is a by b, in lowest terms. */
    void fraction(String what, LentShades x, BigInteger a, BigInteger b) {
        BigInteger common = a.gcd(b);
        due(what + ", its sign", x.sign(0), a.signum());
        limbs(what + ", above", x, 0, a.divide(common));
        limbs(what + ", below", x, 1, b.divide(common));
    }

    private void limbs(String what, LentShades x, int which, BigInteger want) {
        int size = (want.bitLength() + 29) / 30;
        due(what + ", how many limbs", x.sign(1 + which), size);
        for (int i = 0; i < size; i++) {
            int limb = want.shiftRight(30 * i).intValue() & 1073741823;
            due(what + ", limb " + i, x.limb(which, i), limb);
        }
        due(what + ", no more limbs", x.limb(which, size), NONE);
    }

    void fraction(String what, LentShades x, long a, long b) {
        fraction(what, x, BigInteger.valueOf(a), BigInteger.valueOf(b));
    }

    void shade(LentShades x, int cloth, int n, long a, long b) {
        String what = "shade(" + cloth + ", " + n + ")";
        due(what, x.shade(cloth, n), 1);
        fraction(what, x, a, b);
    }

    void status(LentShades x, int bads, int noes, int fulls) {
        due("status(0)", x.status(0), bads);
        due("status(1)", x.status(1), noes);
        due("status(2)", x.status(2), fulls);
    }

    /** The call answers so, and nothing is changed by it, STATUS neither. */
    void quiet(String call, State state, Call c, long want) {
        due(call, c.on(state.make()), want);
        changesOnly(call, state, c, NONE);
    }

    /** Whatever the call answers, nothing is changed by it. */
    void asksAlone(String call, State state, Call c) {
        changesOnly(call, state, c, NONE);
    }

    /** The call is refused: it answers so, is counted so, and changes nothing else. */
    void refused(String call, State state, Call c, long want, int counter) {
        due(call, c.on(state.make()), want);
        changesOnly(call, state, c, counter);
    }

    private void changesOnly(String call, State state, Call c, int counter) {
        LentShades x = state.make();
        c.on(x);
        LentShades twin = state.make();
        for (int k = 0; k < 3; k++) {
            due(call + ": STATUS of " + COUNTERS[k], x.status(k), twin.status(k) + (k == counter ? 1 : 0));
        }
        alike(call, x, twin);
    }

    /** Nothing but THE FRACTION is changed by it. */
    void changesTheFractionAlone(String call, State state, Call c) {
        State other = () -> {
            LentShades x = state.make();
            x.shade(0, 0);
            return x;
        };
        changesOnly(call, other, x -> {
            long answer = c.on(x);
            x.shade(0, 0);
            return answer;
        }, NONE);
    }

    /** Two objects answer the same, whatever is asked of them; they are no more as they were. */
    void alike(String call, LentShades x, LentShades twin) {
        List<Long> got = trace(x);
        List<Long> want = trace(twin);
        due(call + ": how much there is to tell", got.size(), want.size());
        for (int k = 0; k < Math.min(got.size(), want.size()); k++) {
            if (!got.get(k).equals(want.get(k))) {
                due(call + ": what is told as number " + k + " behind it", got.get(k), want.get(k));
                return;
            }
        }
    }

    private static List<Long> trace(LentShades x) {
        List<Long> told = new ArrayList<>();
        stateOf(x, told);
        told.add((long) x.read());
        stateOf(x, told);
        for (int i = 0; i < 2; i++) {
            told.add((long) x.from(i));
            stateOf(x, told);
        }
        return told;
    }

    /** What is told here is never told by more calls than an object is good for, of a full house neither. */
    private static void stateOf(LentShades x, List<Long> told) {
        told.add(x.digest());
        int cloths = x.count(0);
        nightsOf(x, cloths, 0, told);
        nightsOf(x, cloths, 12, told);
        for (int i = 0; i < cloths; i++) {
            told.add((long) x.rest(i));
            told.add(x.digest());
        }
        told.add((long) x.colours());
        told.add((long) x.lent(1));
        told.add((long) x.chest(NONE));
        told.add((long) x.morning(1, 2, NONE));
        while (x.undo() == 1) {
            nightsOf(x, cloths, 0, told);
        }
    }

    private static void nightsOf(LentShades x, int cloths, int n, List<Long> told) {
        for (int i = 0; i < cloths; i++) {
            x.shade(i, n);
            told.add(x.digest());
        }
    }

    /** Of a number in a call: least .. most are taken, each; what is below or above is BAD, and changes nothing. */
    void only(int least, int most, String call, State state, CallOf c, long bad) {
        takes(least, most, call, state, c, bad);
        for (int below : new int[] {least - 1, least - 2, least - 4, least - 256, -65536, Integer.MIN_VALUE}) {
            refused(call + " with " + below, state, x -> c.on(x, below), bad, BADS);
        }
        for (int above : new int[] {most + 1, most + 2, most + 4, most + 256, 65536, Integer.MAX_VALUE}) {
            refused(call + " with " + above, state, x -> c.on(x, above), bad, BADS);
        }
    }

    void takes(int least, int most, String call, State state, CallOf c, long bad) {
        for (int v = least; v <= most; v++) {
            LentShades x = state.make();
            int before = x.status(BADS);
            boolean taken = c.on(x, v) != bad;
            due(call + " with " + v + " is taken", taken && x.status(BADS) == before ? 1 : 0, 1);
        }
    }

    static long digest(long... values) {
        long h = 673;
        for (long v : values) {
            h = 31 * h + v;
        }
        return h;
    }

    /** Comes to THE TEXT, eight bytes by a call. */
    static void type(LentShades x, String text) {
        for (int from = 0; from < text.length(); from += 8) {
            int n = Math.min(8, text.length() - from);
            long v = 0;
            for (int k = from; k < from + n; k++) {
                v = v << 8 | text.charAt(k);
            }
            x.type(v, n);
        }
    }

    static LentShades text(String text) {
        LentShades x = new LentShades();
        type(x, text);
        return x;
    }

    /** The house of a text, on a new object; THE TEXT is empty. */
    static LentShades house(String text) {
        LentShades x = text(text);
        if (x.read() < 0) {
            throw new IllegalStateException("no house: " + text);
        }
        x.clear();
        return x;
    }

    /** Nothing in it is as at first, and there is room for one more of all. */
    static LentShades furnished() {
        LentShades x = house("cloth 0 1 9;cloth 1 2 0;cloth 3 0 5;thing 12;thing 1;thing 7;"
                + "touch 0 1 1;touch 0 4 2;touch 1 2 3;touch 2 5 1;touch 1 6 2;");
        for (int k = 0; k < 3; k++) {
            x.status(3);
        }
        x.undo();
        x.undo();
        x.type(0, 8);
        for (int k = 0; k < 25; k++) {
            x.type(0, 8);
        }
        x.clear();
        x.bound(0, 1, 11);
        x.bound(2, 3, 10);
        x.borrower(0, 0, 3, 4);
        x.borrower(0, 2, 5, 2);
        x.borrower(1, 1, 12, 1);
        x.borrower(2, 0, 0, 5);
        x.borrower(1, 0, 0, 0);
        x.sleep();
        x.sleep();
        x.image(0);
        x.touch(0, 1, 2);
        x.colour(1, 2);
        x.sleep();
        type(x, "cloth 1 1 4;thing 3;cloth 0 0 8;touch 0 1 2;touch 4 0 1;");
        x.shade(1, 2);
        return x;
    }

    /** No more comes into it: all is there, THE TEXT is full, all nights were slept. */
    static LentShades full() {
        LentShades x = house("cloth 1 3 12;cloth 2 0 0;cloth 3 1 5;cloth 4 2 7;thing 12;thing 0;thing 3;thing 9;"
                + "touch 0 1 1;touch 0 2 2;touch 1 2 3;touch 2 4 1;touch 3 5 2;");
        x.touch(3, 0, 1);
        x.touch(1, 7, 3);
        x.touch(2, 6, 1);
        x.bound(3, 2, 9);
        for (int k = 0; k < 6; k++) {
            x.borrower(k % 4, k, 2 * k, k);
        }
        x.image(1);
        for (int k = 0; k < 12; k++) {
            x.sleep();
            if (k == 8) {
                x.image(0);
            }
        }
        String text = "cloth 0 0 3;thing 5;touch 0 4 2;";
        type(x, " ".repeat(200 - text.length()) + text);
        x.shade(2, 1);
        return x;
    }

    static LentShades empty() {
        return new LentShades();
    }
}
