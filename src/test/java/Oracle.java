import java.math.BigInteger;
import java.nio.charset.StandardCharsets;
import java.util.ArrayList;
import java.util.Arrays;
import java.util.List;
import java.util.regex.Matcher;
import java.util.regex.Pattern;

/**
 * The document told a second time, in other ways than LentShades goes: reduced fractions of
 * BigIntegers, elimination, regular expressions, lists. Slow, and meant for comparison alone.
 */
final class Oracle {
    static final int NONE = -1, BAD = -2, NO = -3, FULL = -4;

    record Frac(BigInteger above, BigInteger below) {
        static Frac of(BigInteger a, BigInteger b) {
            BigInteger g = a.gcd(b);
            if (b.signum() < 0) {
                g = g.negate();
            }
            return new Frac(a.divide(g), b.divide(g));
        }

        static Frac of(long a, long b) {
            return of(BigInteger.valueOf(a), BigInteger.valueOf(b));
        }

        Frac plus(Frac o) {
            return of(above.multiply(o.below).add(o.above.multiply(below)), below.multiply(o.below));
        }

        Frac minus(Frac o) {
            return plus(o.times(of(-1, 1)));
        }

        Frac times(Frac o) {
            return of(above.multiply(o.above), below.multiply(o.below));
        }

        Frac by(Frac o) {
            return of(above.multiply(o.below), below.multiply(o.above));
        }

        int compare(Frac o) {
            return above.multiply(o.below).compareTo(o.above.multiply(below));
        }

        boolean isZero() {
            return above.signum() == 0;
        }
    }

    static final class Cloth {
        int kind, hold, least, most = 12;
        Frac shade;

        Cloth copy() {
            Cloth c = new Cloth();
            c.kind = kind;
            c.hold = hold;
            c.least = least;
            c.most = most;
            c.shade = shade;
            return c;
        }
    }

    static final class State {
        List<Cloth> cloths = new ArrayList<>();
        List<Integer> things = new ArrayList<>();
        int[][] hours = new int[8][8];
        int nights;
        List<List<Frac>> past = new ArrayList<>();
        List<int[]> borrowers = new ArrayList<>();

        State copy() {
            State s = new State();
            for (Cloth c : cloths) {
                s.cloths.add(c.copy());
            }
            s.things.addAll(things);
            for (int i = 0; i < 8; i++) {
                s.hours[i] = hours[i].clone();
            }
            s.nights = nights;
            s.past.addAll(past);
            for (int[] b : borrowers) {
                s.borrowers.add(b.clone());
            }
            return s;
        }

        boolean there(int n) {
            return n >= 0 && n < cloths.size() || n >= 4 && n < 4 + things.size();
        }

        List<Frac> shades() {
            List<Frac> r = new ArrayList<>();
            for (Cloth c : cloths) {
                r.add(c.shade);
            }
            return r;
        }

        Frac colourOf(int n, List<Frac> shades) {
            return n < 4 ? shades.get(n) : Frac.of(things.get(n - 4), 12);
        }

        /** How much a cloth takes of a number. */
        int takes(int i, int n) {
            Cloth c = cloths.get(i);
            boolean fast = c.kind == 1 || c.kind == 3;
            if (n == i) {
                return fast ? c.hold + 1 : 0;
            }
            if (n < 4) {
                int k = cloths.get(n).kind;
                return k == 2 || k == 4 ? 0 : hours[i][n];
            }
            return c.kind == 3 ? 2 * hours[i][n] : hours[i][n];
        }

        List<Frac> night(List<Frac> before) {
            List<Frac> after = new ArrayList<>();
            for (int i = 0; i < cloths.size(); i++) {
                Frac sum = Frac.of(0, 1);
                Frac greatest = null;
                int whole = 0;
                for (int n = 0; n < 8; n++) {
                    if (there(n) && takes(i, n) > 0) {
                        Frac v = colourOf(n, before);
                        whole += takes(i, n);
                        sum = sum.plus(v.times(Frac.of(takes(i, n), 1)));
                        greatest = greatest == null || v.compare(greatest) > 0 ? v : greatest;
                    }
                }
                if (whole == 0) {
                    after.add(before.get(i));
                } else {
                    after.add(cloths.get(i).kind == 4 ? greatest : sum.by(Frac.of(whole, 1)));
                }
            }
            return after;
        }

        List<Frac> behind(int n) {
            List<Frac> s = shades();
            for (int k = 0; k < n; k++) {
                s = night(s);
            }
            return s;
        }
    }

    State s = new State();
    final State[] images = new State[2];
    byte[] text = new byte[0];
    Frac fraction = Frac.of(0, 1);
    final int[] status = new int[3];

    private int bad() {
        status[0]++;
        return BAD;
    }

    private int badTen() {
        status[0]++;
        return -10;
    }

    private int no() {
        status[1]++;
        return NO;
    }

    private int full() {
        status[2]++;
        return FULL;
    }

    private static boolean in(int v, int lo, int hi) {
        return lo <= v && v <= hi;
    }

    private boolean isCloth(int i) {
        return in(i, 0, s.cloths.size() - 1);
    }

    private boolean isThing(int i) {
        return in(i, 0, s.things.size() - 1);
    }

    int cloth(int kind, int hold, int shade) {
        if (!in(kind, 0, 4) || !in(hold, 0, 3) || !in(shade, 0, 12)) {
            return bad();
        }
        if (s.cloths.size() == 4) {
            return full();
        }
        put(s, kind, hold, shade);
        s.past.clear();
        return s.cloths.size() - 1;
    }

    private static void put(State s, int kind, int hold, int shade) {
        Cloth c = new Cloth();
        c.kind = kind;
        c.hold = hold;
        c.shade = Frac.of(shade, 12);
        s.cloths.add(c);
    }

    int thing(int colour) {
        if (!in(colour, 0, 12)) {
            return bad();
        }
        if (s.things.size() == 4) {
            return full();
        }
        s.things.add(colour);
        return s.things.size() - 1;
    }

    int touch(int a, int b, int h) {
        if (!s.there(a) || !s.there(b) || !in(h, 0, 3) || a == b || Math.min(a, b) >= 4) {
            return bad();
        }
        int was = s.hours[a][b];
        s.hours[a][b] = h;
        s.hours[b][a] = h;
        return was;
    }

    int colour(int thing, int v) {
        if (!isThing(thing) || !in(v, 0, 12)) {
            return bad();
        }
        return s.things.set(thing, v);
    }

    int type(long v, int n) {
        if (!in(n, 1, 8)) {
            return bad();
        }
        if (text.length + n > 200) {
            return full();
        }
        byte[] all = BigInteger.valueOf(v).toByteArray();
        byte[] eight = new byte[8];
        Arrays.fill(eight, (byte) (v < 0 ? -1 : 0));
        System.arraycopy(all, 0, eight, 8 - all.length, all.length);
        byte[] longer = Arrays.copyOf(text, text.length + n);
        System.arraycopy(eight, 8 - n, longer, text.length, n);
        text = longer;
        return text.length;
    }

    int clear() {
        int had = text.length;
        text = new byte[0];
        return had;
    }

    private static final Pattern TOKEN = Pattern.compile(" *([a-z]+|[0-9]+|;|[^ ]|$)", Pattern.DOTALL);

    int read() {
        String t = new String(text, StandardCharsets.ISO_8859_1);
        List<String> words = new ArrayList<>();
        List<Integer> places = new ArrayList<>();
        Matcher m = TOKEN.matcher(t);
        while (m.find()) {
            words.add(m.group(1));
            places.add(m.start(1));
            if (m.group(1).isEmpty()) {
                break;
            }
        }
        State house = new State();
        int[] at = {0};
        int items = 0;
        while (!words.get(at[0]).isEmpty()) {
            if (!item(house, words, at)) {
                return -10 - places.get(at[0]);
            }
            items++;
        }
        house.borrowers = s.borrowers;
        s = house;
        return items;
    }

    private static boolean item(State house, List<String> words, int[] at) {
        String word = words.get(at[0]);
        int[] v = new int[3];
        int wanted;
        if (word.equals("cloth") && house.cloths.size() < 4) {
            wanted = 3;
        } else if (word.equals("thing") && house.things.size() < 4) {
            wanted = 1;
        } else if (word.equals("touch")) {
            wanted = 3;
        } else {
            return false;
        }
        at[0]++;
        for (int k = 0; k < wanted; k++) {
            String w = words.get(at[0]);
            if (!w.matches("[0-9][0-9]?")) {
                return false;
            }
            v[k] = Integer.parseInt(w);
            boolean fine = switch (word) {
                case "cloth" -> v[k] <= (k == 0 ? 4 : k == 1 ? 3 : 12);
                case "thing" -> v[k] <= 12;
                default -> k == 2 ? v[k] <= 3
                        : house.there(v[k]) && (k == 0 || v[0] != v[1] && (v[0] < 4 || v[1] < 4));
            };
            if (!fine) {
                return false;
            }
            at[0]++;
        }
        if (!words.get(at[0]).equals(";")) {
            return false;
        }
        at[0]++;
        switch (word) {
            case "cloth" -> put(house, v[0], v[1], v[2]);
            case "thing" -> house.things.add(v[0]);
            default -> {
                house.hours[v[0]][v[1]] = v[2];
                house.hours[v[1]][v[0]] = v[2];
            }
        }
        return true;
    }

    int shade(int cloth, int n) {
        if (!isCloth(cloth) || !in(n, 0, 12)) {
            return bad();
        }
        fraction = s.behind(n).get(cloth);
        return 1;
    }

    int sleep() {
        if (s.nights == 12) {
            return no();
        }
        s.past.add(s.shades());
        if (s.past.size() > 6) {
            s.past.remove(0);
        }
        wear(s.behind(1));
        return ++s.nights;
    }

    private void wear(List<Frac> shades) {
        for (int i = 0; i < shades.size(); i++) {
            s.cloths.get(i).shade = shades.get(i);
        }
    }

    int undo() {
        if (s.past.isEmpty()) {
            return no();
        }
        wear(s.past.remove(s.past.size() - 1));
        s.nights--;
        return 1;
    }

    int soRed(int cloth, int a) {
        if (!isCloth(cloth) || !in(a, 0, 12)) {
            return bad();
        }
        for (int n = 0; n <= 12; n++) {
            if (s.behind(n).get(cloth).compare(Frac.of(a, 12)) >= 0) {
                return n;
            }
        }
        return NONE;
    }

    int rest(int cloth) {
        if (!isCloth(cloth)) {
            return bad();
        }
        int m = s.cloths.size();
        Frac[][] rows = new Frac[m][m + 1];
        for (int i = 0; i < m; i++) {
            if (s.cloths.get(i).kind == 4) {
                return no();
            }
            for (int j = 0; j <= m; j++) {
                rows[i][j] = Frac.of(0, 1);
            }
            int whole = 0;
            for (int n = 0; n < 8; n++) {
                if (s.there(n)) {
                    int w = s.takes(i, n);
                    whole += w;
                    int column = n < 4 ? n : m;
                    Frac v = n < 4 ? Frac.of(-w, 1) : Frac.of((long) w * s.things.get(n - 4), 12);
                    rows[i][column] = rows[i][column].plus(v);
                }
            }
            rows[i][i] = rows[i][i].plus(Frac.of(whole, 1));
            if (whole == 0) {
                rows[i][i] = Frac.of(1, 1);
                rows[i][m] = s.cloths.get(i).shade;
            }
        }
        if (!eliminate(rows, m)) {
            return no();
        }
        fraction = rows[cloth][m];
        return 1;
    }

    private static boolean eliminate(Frac[][] rows, int m) {
        for (int c = 0; c < m; c++) {
            int p = c;
            while (p < m && rows[p][c].isZero()) {
                p++;
            }
            if (p == m) {
                return false;
            }
            Frac[] pivot = rows[p];
            rows[p] = rows[c];
            rows[c] = pivot;
            Frac lead = pivot[c];
            for (int j = 0; j <= m; j++) {
                pivot[j] = pivot[j].by(lead);
            }
            for (int i = 0; i < m; i++) {
                Frac f = rows[i][c];
                for (int j = 0; i != c && j <= m; j++) {
                    rows[i][j] = rows[i][j].minus(f.times(pivot[j]));
                }
            }
        }
        return true;
    }

    int moves(int cloth, int a, int b, int n, int what) {
        if (!isCloth(cloth) || a < 0 || a > b || b > 12 || !in(n, 1, 3) || !in(what, 0, 2)) {
            return badTen();
        }
        List<int[]> all = new ArrayList<>();
        for (int x = 0; x < 4; x++) {
            for (int y = x + 1; y < 8; y++) {
                for (int h = 0; h <= 3; h += 3) {
                    if (s.there(x) && s.there(y)) {
                        all.add(new int[] {x, y, h});
                    }
                }
            }
        }
        List<int[]> found = fewest(all, cloth, Frac.of(a, 12), Frac.of(b, 12), n);
        if (found == null) {
            return NONE;
        }
        if (what == 0) {
            return found.size();
        }
        if (what > found.size()) {
            return -5;
        }
        int[] m = found.get(what - 1);
        return 1000 * m[0] + 100 * m[1] + m[2];
    }

    private List<int[]> fewest(List<int[]> all, int cloth, Frac a, Frac b, int n) {
        if (reached(List.of(), cloth, a, b, n)) {
            return List.of();
        }
        for (int[] m : all) {
            if (reached(List.of(m), cloth, a, b, n)) {
                return List.of(m);
            }
        }
        for (int i = 0; i < all.size(); i++) {
            for (int j = i + 1; j < all.size(); j++) {
                int[] m = all.get(i);
                int[] k = all.get(j);
                boolean alike = m[0] == k[0] && m[1] == k[1];
                if (!alike && reached(List.of(m, k), cloth, a, b, n)) {
                    return List.of(m, k);
                }
            }
        }
        return null;
    }

    private boolean reached(List<int[]> moves, int cloth, Frac a, Frac b, int n) {
        State t = s.copy();
        for (int[] m : moves) {
            t.hours[m[0]][m[1]] = m[2];
            t.hours[m[1]][m[0]] = m[2];
        }
        Frac v = t.behind(n).get(cloth);
        return v.compare(a) >= 0 && v.compare(b) <= 0;
    }

    int bound(int cloth, int least, int most) {
        if (!isCloth(cloth) || least < 0 || least > most || most > 12) {
            return bad();
        }
        s.cloths.get(cloth).least = least;
        s.cloths.get(cloth).most = most;
        return 1;
    }

    int chest(int i) {
        if (i < NONE) {
            return badTen();
        }
        List<List<Integer>> orders = new ArrayList<>();
        orders(new ArrayList<>(), orders);
        if (i == NONE) {
            return orders.size();
        }
        return i >= s.cloths.size() || orders.isEmpty() ? -5 : orders.get(0).get(i);
    }

    private void orders(List<Integer> begun, List<List<Integer>> found) {
        if (begun.size() == s.cloths.size()) {
            if (lies(begun)) {
                found.add(new ArrayList<>(begun));
            }
            return;
        }
        for (int c = 0; c < s.cloths.size(); c++) {
            if (!begun.contains(c)) {
                begun.add(c);
                orders(begun, found);
                begun.remove(begun.size() - 1);
            }
        }
    }

    private boolean lies(List<Integer> order) {
        State t = s.copy();
        t.hours = new int[8][8];
        for (int k = 0; k + 1 < order.size(); k++) {
            t.hours[order.get(k)][order.get(k + 1)] = 3;
            t.hours[order.get(k + 1)][order.get(k)] = 3;
        }
        List<Frac> out = t.behind(1);
        for (int c = 0; c < out.size(); c++) {
            Cloth cloth = t.cloths.get(c);
            if (out.get(c).compare(Frac.of(cloth.least, 12)) < 0 || out.get(c).compare(Frac.of(cloth.most, 12)) > 0) {
                return false;
            }
        }
        return true;
    }

    private List<Integer> sets(int a, int b) {
        List<Integer> sets = new ArrayList<>();
        for (int set = 1; set < 256; set++) {
            Frac sum = Frac.of(0, 1);
            boolean may = true;
            for (int n = 0; n < 8; n++) {
                if ((set & 1 << n) != 0) {
                    boolean lends = s.there(n) && (n >= 4 || s.cloths.get(n).kind % 2 == 1 || s.cloths.get(n).kind == 0);
                    may &= lends;
                    sum = lends ? sum.plus(s.colourOf(n, s.shades())) : sum;
                }
            }
            if (may && sum.by(Frac.of(Integer.bitCount(set), 1)).compare(Frac.of(a, b)) == 0) {
                sets.add(set);
            }
        }
        return sets;
    }

    int morning(int a, int b, int i) {
        if (!in(b, 1, 99) || !in(a, 0, b) || i < NONE) {
            return badTen();
        }
        List<Integer> sets = sets(a, b);
        return i == NONE ? sets.size() : i < sets.size() ? sets.get(i) : -5;
    }

    int surely(int a, int b) {
        if (!in(b, 1, 99) || !in(a, 0, b)) {
            return bad();
        }
        return sets(a, b).stream().reduce((x, y) -> x & y).orElse(NONE);
    }

    int borrower(int cloth, int first, int last, int a) {
        if (!isCloth(cloth) || first < 0 || first > last || last > 12 || !in(a, 0, 12)) {
            return bad();
        }
        if (s.borrowers.size() == 6) {
            return full();
        }
        s.borrowers.add(new int[] {cloth, first, last, a});
        return s.borrowers.size() - 1;
    }

    int refuse() {
        int had = s.borrowers.size();
        s.borrowers = new ArrayList<>();
        return had;
    }

    int lent(int what) {
        if (!in(what, 0, 1)) {
            return bad();
        }
        List<List<Frac>> nights = new ArrayList<>();
        for (int n = 0; n <= 12; n++) {
            nights.add(s.behind(n));
        }
        int best = 0;
        for (int set = 0; set < 1 << s.borrowers.size(); set++) {
            if (Integer.bitCount(set) > Integer.bitCount(best) && served(set, nights)) {
                best = set;
            }
        }
        return what == 0 ? Integer.bitCount(best) : best;
    }

    private boolean served(int set, List<List<Frac>> nights) {
        boolean[][] away = new boolean[4][13];
        for (int k = 0; k < s.borrowers.size(); k++) {
            int[] w = s.borrowers.get(k);
            for (int n = w[1]; (set & 1 << k) != 0 && n <= w[2]; n++) {
                if (!isCloth(w[0]) || away[w[0]][n] || nights.get(n).get(w[0]).compare(Frac.of(w[3], 12)) < 0) {
                    return false;
                }
                away[w[0]][n] = true;
            }
        }
        return true;
    }

    int colours() {
        List<Frac> unlike = new ArrayList<>();
        for (int n = 0; n < 8; n++) {
            if (s.there(n) && !unlike.contains(s.colourOf(n, s.shades()))) {
                unlike.add(s.colourOf(n, s.shades()));
            }
        }
        return unlike.size();
    }

    int least(int thing, int cloth, int n, int a) {
        if (!isThing(thing) || !isCloth(cloth) || !in(n, 0, 12) || !in(a, 0, 12)) {
            return bad();
        }
        for (int v = 0; v <= 12; v++) {
            State t = s.copy();
            t.things.set(thing, v);
            if (t.behind(n).get(cloth).compare(Frac.of(a, 12)) >= 0) {
                return v;
            }
        }
        return NONE;
    }

    private static List<Integer> limbs(BigInteger v) {
        List<Integer> limbs = new ArrayList<>();
        for (BigInteger left = v; left.signum() != 0; left = left.shiftRight(30)) {
            limbs.add(left.intValue() & 1073741823);
        }
        return limbs;
    }

    int sign(int what) {
        return switch (what) {
            case 0 -> fraction.above().signum();
            case 1 -> limbs(fraction.above()).size();
            case 2 -> limbs(fraction.below()).size();
            default -> bad();
        };
    }

    int limb(int which, int i) {
        if (!in(which, 0, 1) || i < 0) {
            return bad();
        }
        List<Integer> limbs = limbs(which == 0 ? fraction.above() : fraction.below());
        return i < limbs.size() ? limbs.get(i) : NONE;
    }

    int image(int i) {
        if (!in(i, 0, 1)) {
            return bad();
        }
        images[i] = s.copy();
        return 1;
    }

    int from(int i) {
        if (!in(i, 0, 1)) {
            return bad();
        }
        if (images[i] == null) {
            return no();
        }
        s = images[i].copy();
        return 1;
    }

    int status(int what) {
        if (!in(what, 0, 2)) {
            bad();
            return -1;
        }
        return status[what];
    }

    int count(int what) {
        return switch (what) {
            case 0 -> s.cloths.size();
            case 1 -> s.things.size();
            case 2 -> s.nights;
            case 3 -> s.past.size();
            case 4 -> text.length;
            case 5 -> s.borrowers.size();
            default -> bad();
        };
    }

    long digest() {
        List<Integer> all = new ArrayList<>();
        for (int what = 0; what < 6; what++) {
            all.add(count(what));
        }
        for (int i = 0; i < s.cloths.size(); i++) {
            Cloth c = s.cloths.get(i);
            all.addAll(List.of(c.kind, c.hold, c.least, c.most));
            for (int n = 0; n < 8; n++) {
                all.add(s.hours[i][n]);
            }
        }
        all.addAll(s.things);
        for (int[] b : s.borrowers) {
            all.addAll(List.of(b[0], b[1], b[2], b[3]));
        }
        all.addAll(List.of(sign(0), sign(1), sign(2)));
        all.addAll(limbs(fraction.above()));
        all.addAll(limbs(fraction.below()));
        long h = 673;
        for (int v : all) {
            h = 31 * h + v;
        }
        return h;
    }
}
