import java.util.Random;

/** Long runs of calls, right and wrong ones, on LentShades and on the oracle alike. */
public final class OracleTest {
    private static final String[] WORDS = {"cloth", "thing", "touch", "clothe", "x", "toucht"};

    private final Random random;
    private final LentShades real = new LentShades();
    private final Oracle oracle = new Oracle();
    private final StringBuilder told = new StringBuilder();

    private OracleTest(long seed) {
        random = new Random(seed);
    }

    public static void main(String[] args) {
        int runs = args.length > 0 ? Integer.parseInt(args[0]) : 400;
        long firstSeed = args.length > 1 ? Long.parseLong(args[1]) : 1;
        int wrong = 0;
        for (long seed = firstSeed; seed < firstSeed + runs && wrong < 3; seed++) {
            wrong += new OracleTest(seed).run(seed) ? 0 : 1;
        }
        wrong += new OracleTest(firstSeed).longest() ? 0 : 1;
        System.out.println("OracleTest: " + (wrong == 0 ? "all answers are as due" : wrong + " runs went wrong"));
        System.exit(wrong == 0 ? 0 : 1);
    }

    private boolean run(long seed) {
        int spice = random.nextInt(4);
        for (int k = 0; k < 512; k++) {
            if (!step(k, spice)) {
                System.out.println("seed " + seed + told);
                return false;
            }
        }
        return true;
    }

    /** The house that makes the longest fractions: 37, 35, 33 and 34 are taken in all. */
    private boolean longest() {
        int[] holds = {3, 3, 3, 2};
        int[] shades = {12, 0, 7, 5};
        int[][] hours = {{3, 3, 3, 3}, {3, 3, 3, 2}, {3, 3, 2, 2}, {3, 2, 3, 3}};
        boolean fine = true;
        for (int i = 0; i < 4; i++) {
            fine &= due("cloth", real.cloth(3, holds[i], shades[i]), oracle.cloth(3, holds[i], shades[i]));
            fine &= due("thing", real.thing(5 * i % 12), oracle.thing(5 * i % 12));
        }
        for (int i = 0; i < 4; i++) {
            for (int n = i + 1; n < 8; n++) {
                int h = n < 4 ? 3 : hours[i][n - 4];
                fine &= due("touch", real.touch(i, n, h), oracle.touch(i, n, h));
            }
        }
        for (int k = 0; k < 12; k++) {
            fine &= due("sleep", real.sleep(), oracle.sleep());
        }
        for (int i = 0; i < 4; i++) {
            fine &= due("shade", real.shade(i, 12), oracle.shade(i, 12)) && fraction();
            fine &= due("rest", real.rest(i), oracle.rest(i)) && fraction();
            fine &= due("soRed", real.soRed(i, 9), oracle.soRed(i, 9));
            fine &= due("least", real.least(i, i, 12, 8), oracle.least(i, i, 12, 8));
            fine &= due("moves", real.moves(i, 0, 1, 3, 0), oracle.moves(i, 0, 1, 3, 0));
        }
        if (!fine) {
            System.out.println("the longest fractions" + told);
        }
        return fine;
    }

    /** Mostly 0 .. most, at times just outside, seldom far away. */
    private int some(int most) {
        int luck = random.nextInt(60);
        if (luck == 0) {
            return -1;
        }
        if (luck == 1) {
            return most + 1;
        }
        if (luck == 2) {
            int[] far = {Integer.MIN_VALUE, Integer.MAX_VALUE, -2, 100, -10, 256};
            return far[random.nextInt(far.length)];
        }
        return random.nextInt(most + 1);
    }

    private int cloth() {
        return some(Math.max(0, oracle.s.cloths.size() - 1));
    }

    private boolean due(String call, long got, long want) {
        told.append("\n  ").append(call).append(" -> ").append(got);
        if (got != want) {
            told.append(", due is ").append(want);
        }
        return got == want;
    }

    private boolean step(int k, int spice) {
        int pick = random.nextInt(100);
        if (k < 12 && spice < 3 || pick < 12) {
            return furnish();
        }
        if (pick < 22) {
            return sleepOrSo(spice);
        }
        if (pick < 36) {
            return look();
        }
        if (pick < 62) {
            return ask();
        }
        if (pick < 70) {
            return lend();
        }
        if (pick < 76) {
            return pick < 72 ? readSome() : typeSome();
        }
        return pick < 80 ? keep() : tell();
    }

    private boolean furnish() {
        int a = some(7);
        int b = some(7);
        int c = some(3);
        switch (random.nextInt(8)) {
            case 0, 1: {
                int kind = some(4);
                int shade = some(12);
                return due("cloth(" + kind + ", " + c + ", " + shade + ")", real.cloth(kind, c, shade),
                        oracle.cloth(kind, c, shade));
            }
            case 2: {
                int v = some(12);
                return due("thing(" + v + ")", real.thing(v), oracle.thing(v));
            }
            case 3: {
                int t = some(3);
                int v = some(12);
                return due("colour(" + t + ", " + v + ")", real.colour(t, v), oracle.colour(t, v));
            }
            default:
                return due("touch(" + a + ", " + b + ", " + c + ")", real.touch(a, b, c), oracle.touch(a, b, c));
        }
    }

    private boolean sleepOrSo(int spice) {
        if (random.nextInt(4) < 1 + spice) {
            return due("sleep()", real.sleep(), oracle.sleep());
        }
        return due("undo()", real.undo(), oracle.undo());
    }

    private boolean look() {
        int i = cloth();
        int n = some(12);
        switch (random.nextInt(4)) {
            case 0:
                return due("rest(" + i + ")", real.rest(i), oracle.rest(i)) && fraction();
            case 1:
                return due("soRed(" + i + ", " + n + ")", real.soRed(i, n), oracle.soRed(i, n));
            default:
                return due("shade(" + i + ", " + n + ")", real.shade(i, n), oracle.shade(i, n)) && fraction();
        }
    }

    private boolean fraction() {
        boolean fine = due("digest()", real.digest(), oracle.digest());
        for (int i = 0; i < 20 && fine; i++) {
            fine = real.limb(0, i) == oracle.limb(0, i) && real.limb(1, i) == oracle.limb(1, i);
        }
        return fine;
    }

    private boolean ask() {
        int i = cloth();
        int a = some(12);
        int b = random.nextInt(3) == 0 ? a : Math.max(a, some(12));
        int n = some(12);
        switch (random.nextInt(9)) {
            case 0: {
                if (random.nextInt(3) > 0) {
                    return true;
                }
                int nights = some(2) + 1;
                int what = some(2);
                return due("moves(" + i + ", " + a + ", " + b + ", " + nights + ", " + what + ")",
                        real.moves(i, a, b, nights, what), oracle.moves(i, a, b, nights, what));
            }
            case 1, 2:
                return due("bound(" + i + ", " + a + ", " + b + ")", real.bound(i, a, b), oracle.bound(i, a, b));
            case 3: {
                int which = some(5) - 1;
                return due("chest(" + which + ")", real.chest(which), oracle.chest(which));
            }
            case 4, 5: {
                int below = random.nextBoolean() ? 12 * (1 + random.nextInt(4)) : some(99);
                int above = random.nextBoolean() ? some(Math.abs(below % 100)) : b;
                int which = some(5) - 1;
                return due("morning(" + above + ", " + below + ", " + which + ")",
                        real.morning(above, below, which), oracle.morning(above, below, which))
                        && due("surely(" + above + ", " + below + ")", real.surely(above, below),
                        oracle.surely(above, below));
            }
            case 6:
                return due("colours()", real.colours(), oracle.colours());
            default: {
                int t = some(Math.max(0, oracle.s.things.size() - 1));
                return due("least(" + t + ", " + i + ", " + n + ", " + a + ")", real.least(t, i, n, a),
                        oracle.least(t, i, n, a));
            }
        }
    }

    private boolean lend() {
        int i = cloth();
        int first = some(8);
        int last = Math.max(first, some(12));
        int a = some(12);
        switch (random.nextInt(8)) {
            case 0:
                return due("refuse()", real.refuse(), oracle.refuse());
            case 1, 2, 3: {
                int what = some(1);
                return due("lent(" + what + ")", real.lent(what), oracle.lent(what));
            }
            default:
                return due("borrower(" + i + ", " + first + ", " + last + ", " + a + ")",
                        real.borrower(i, first, last, a), oracle.borrower(i, first, last, a));
        }
    }

    private boolean typeSome() {
        if (random.nextInt(4) == 0) {
            return due("clear()", real.clear(), oracle.clear());
        }
        long v = random.nextLong();
        int n = some(8);
        return due("type(" + v + ", " + n + ")", real.type(v, n), oracle.type(v, n));
    }

    /** A new text, mostly right, at times with one sign of it spoiled or its end cut off. */
    private boolean readSome() {
        StringBuilder text = new StringBuilder();
        int items = random.nextInt(14);
        for (int k = 0; k < items; k++) {
            text.append(blanks()).append(item(k)).append(blanks());
        }
        if (text.length() > 0 && random.nextInt(3) == 0) {
            String signs = "; 0a9zt-A\n{/:`";
            text.setCharAt(random.nextInt(text.length()), signs.charAt(random.nextInt(signs.length())));
        }
        if (random.nextInt(6) == 0) {
            text.setLength(random.nextInt(text.length() + 1));
        }
        told.append("\n  text ").append(text);
        boolean fine = due("clear()", real.clear(), oracle.clear());
        for (int at = 0; at < text.length() && fine; at += 8) {
            int n = Math.min(8, text.length() - at);
            long v = random.nextLong();
            for (int k = at; k < at + n; k++) {
                v = v << 8 | text.charAt(k);
            }
            fine = due("type(" + v + ", " + n + ")", real.type(v, n), oracle.type(v, n));
        }
        return fine && due("read()", real.read(), oracle.read());
    }

    private String blanks() {
        return random.nextInt(5) == 0 ? "  " : "";
    }

    private String number(int most) {
        int luck = random.nextInt(50);
        if (luck == 0) {
            return String.valueOf(most + 1);
        }
        String v = String.valueOf(random.nextInt(most + 1));
        return luck == 1 ? "00" + v : luck < 6 && v.length() == 1 ? "0" + v : v;
    }

    private String item(int k) {
        int luck = random.nextInt(k < 5 ? 2 : 20);
        String word = WORDS[luck < 2 ? luck : luck == 19 ? random.nextInt(WORDS.length) : 2];
        String numbers = switch (word) {
            case "cloth" -> number(4) + " " + number(3) + " " + blanks() + number(12);
            case "thing" -> number(12);
            default -> number(3) + " " + (random.nextBoolean() ? number(3) : "4") + " " + number(3);
        };
        return word + " " + numbers + blanks() + ";";
    }

    private boolean keep() {
        int i = some(1);
        return random.nextBoolean() ? due("image(" + i + ")", real.image(i), oracle.image(i))
                : due("from(" + i + ")", real.from(i), oracle.from(i));
    }

    private boolean tell() {
        int what = some(5);
        int i = some(3);
        switch (random.nextInt(5)) {
            case 0:
                return due("sign(" + i + ")", real.sign(i), oracle.sign(i));
            case 1:
                return due("limb(" + i + ", " + what + ")", real.limb(i, what), oracle.limb(i, what));
            case 2:
                return due("status(" + i + ")", real.status(i), oracle.status(i));
            case 3:
                return due("count(" + what + ")", real.count(what), oracle.count(what));
            default:
                return due("digest()", real.digest(), oracle.digest());
        }
    }
}
