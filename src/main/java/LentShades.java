/**
 * Lent colours: cloths that take their shades from what lies beside them, night by night.
 * The project's document tells each call as a numbered promise; README.md tells how to use it.
 */
public final class LentShades {
    public static final int NONE = -1, BAD = -2, NO = -3, FULL = -4;

    private static final int NOT_SO_MANY = -5, BAD_TEN = -10, FAULT_BASE = -10;
    private static final int CLOTHS = 4, THINGS = 4, NUMBERS = 8, PARTS = 12;
    private static final int MOST_KIND = 4, MOST_HOLD = 3, MOST_HOURS = 3;
    private static final int NIGHTS = 12, MOVE_NIGHTS = 3, UNDOS = 6, BORROWERS = 6, IMAGES = 2;
    private static final int TEXT_BYTES = 200, MOST_TYPED = 8, MOST_BELOW = 99;
    private static final int FAST = 1, WHITE = 2, THIRSTY = 3, VAIN = 4;

    // A night multiplies what is below by 37 * 35 * 34 * 33 at most, 24 nights come to 17 limbs.
    private static final int LIMBS = 20, LIMB_BITS = 30, LIMB_BASE = 1073741824;
    private static final long LIMB_MASK = 1073741823L;
    // The rows of Shades: 0 .. 3 the cloths, and what one part of twelve is.
    private static final int UNIT = 4, ROWS = 5;

    private final House house = new House();
    private final House[] images = new House[IMAGES];
    private final boolean[] kept = new boolean[IMAGES];
    private final Reader reader = new Reader();
    private final Fraction fraction = new Fraction();
    private final Sum sum = new Sum();
    private final Takings takings = new Takings();
    private final Resting resting = new Resting();
    private final Mover mover = new Mover();
    private final Chest box = new Chest();
    private final int[] otherColours = new int[THINGS];
    private int bads, noes, fulls;

    public LentShades() {
        for (int i = 0; i < IMAGES; i++) {
            images[i] = new House();
        }
    }

    public int cloth(int kind, int hold, int shade) {
        if (!within(kind, MOST_KIND) || !within(hold, MOST_HOLD) || !within(shade, PARTS)) {
            return refusedBad();
        }
        if (house.cloths >= CLOTHS) {
            return refusedFull();
        }
        house.addCloth(kind, hold, shade);
        return house.cloths - 1;
    }

    public int thing(int colour) {
        if (!within(colour, PARTS)) {
            return refusedBad();
        }
        if (house.things >= THINGS) {
            return refusedFull();
        }
        house.addThing(colour);
        return house.things - 1;
    }

    public int touch(int a, int b, int h) {
        if (!house.hasNumber(a) || !house.hasNumber(b) || !within(h, MOST_HOURS)) {
            return refusedBad();
        }
        if (a == b || a >= CLOTHS && b >= CLOTHS) {
            return refusedBad();
        }
        int old = a < CLOTHS ? house.hours[a][b] : house.hours[b][a];
        putHours(house.hours, a, b, h);
        return old;
    }

    public int colour(int thing, int v) {
        if (!house.hasThing(thing) || !within(v, PARTS)) {
            return refusedBad();
        }
        int old = house.colour[thing];
        house.colour[thing] = v;
        return old;
    }

    public int type(long v, int n) {
        if (n < 1 || n > MOST_TYPED) {
            return refusedBad();
        }
        if (reader.length + n > TEXT_BYTES) {
            return refusedFull();
        }
        reader.append(v, n);
        return reader.length;
    }

    public int clear() {
        int had = reader.length;
        reader.length = 0;
        return had;
    }

    public int read() {
        int items = reader.readInto(null);
        if (items >= 0) {
            house.emptyOut();
            reader.readInto(house);
        }
        return items;
    }

    public int shade(int cloth, int n) {
        if (!house.hasCloth(cloth) || !within(n, NIGHTS)) {
            return refusedBad();
        }
        takings.reckon(house, house.hours, house.colour);
        Shades then = takings.behind(house.now, n);
        sum.begin();
        sum.coef[cloth] = 1;
        fraction.put(sum, then, 1);
        return 1;
    }

    public int sleep() {
        if (house.nights >= NIGHTS) {
            return refusedNo();
        }
        takings.reckon(house, house.hours, house.colour);
        house.wakeUpWith(takings.behind(house.now, 1));
        return house.nights;
    }

    public int undo() {
        return house.goBack() ? 1 : refusedNo();
    }

    public int soRed(int cloth, int a) {
        if (!house.hasCloth(cloth) || !within(a, PARTS)) {
            return refusedBad();
        }
        takings.reckon(house, house.hours, house.colour);
        Shades then = house.now;
        for (int night = 0; night <= NIGHTS; night++) {
            if (night > 0) {
                then = takings.behind(then, 1);
            }
            if (then.hasAtLeast(cloth, a)) {
                return night;
            }
        }
        return NONE;
    }

    public int rest(int cloth) {
        if (!house.hasCloth(cloth)) {
            return refusedBad();
        }
        if (house.hasVain()) {
            return refusedNo();
        }
        takings.reckon(house, house.hours, house.colour);
        int times = resting.solve(takings, cloth, sum);
        if (times <= 0) {
            return refusedNo();
        }
        fraction.put(sum, house.now, times);
        return 1;
    }

    public int moves(int cloth, int a, int b, int n, int what) {
        boolean fit = house.hasCloth(cloth) && a >= 0 && a <= b && b <= PARTS;
        if (!fit || n < 1 || n > MOVE_NIGHTS || !within(what, 2)) {
            refusedBad();
            return BAD_TEN;
        }
        mover.aim(cloth, a, b, n);
        int fewest = mover.search(house, takings);
        if (fewest == NONE || what == 0) {
            return fewest;
        }
        if (what > fewest) {
            return NOT_SO_MANY;
        }
        return what == 1 ? mover.told(mover.first) : mover.told(mover.second);
    }

    public int bound(int cloth, int least, int most) {
        if (!house.hasCloth(cloth) || least < 0 || least > most || most > PARTS) {
            return refusedBad();
        }
        house.least[cloth] = least;
        house.most[cloth] = most;
        return 1;
    }

    public int chest(int i) {
        if (i < NONE) {
            refusedBad();
            return BAD_TEN;
        }
        if (i >= house.cloths) {
            return NOT_SO_MANY;
        }
        int orders = box.countOrders(house, takings);
        if (i == NONE) {
            return orders;
        }
        return orders == 0 ? NOT_SO_MANY : box.first[i];
    }

    public int morning(int a, int b, int i) {
        if (!isShade(a, b) || i < NONE) {
            refusedBad();
            return BAD_TEN;
        }
        int lenders = house.lenders();
        int found = 0;
        for (int set = 1; set < 1 << NUMBERS; set++) {
            if ((set & ~lenders) == 0 && gives(set, a, b)) {
                if (found == i) {
                    return set;
                }
                found++;
            }
        }
        return i == NONE ? found : NOT_SO_MANY;
    }

    public int surely(int a, int b) {
        if (!isShade(a, b)) {
            return refusedBad();
        }
        int lenders = house.lenders();
        int inAll = NONE;
        for (int set = 1; set < 1 << NUMBERS; set++) {
            if ((set & ~lenders) == 0 && gives(set, a, b)) {
                // NONE has all bits, so the first set comes through whole.
                inAll &= set;
            }
        }
        return inAll;
    }

    public int borrower(int cloth, int first, int last, int a) {
        if (!house.hasCloth(cloth) || first < 0 || first > last || last > NIGHTS || !within(a, PARTS)) {
            return refusedBad();
        }
        if (house.borrowers >= BORROWERS) {
            return refusedFull();
        }
        house.addBorrower(cloth, first, last, a);
        return house.borrowers - 1;
    }

    public int refuse() {
        int had = house.borrowers;
        house.borrowers = 0;
        return had;
    }

    public int lent(int what) {
        if (!within(what, 1)) {
            return refusedBad();
        }
        int content = contentBorrowers();
        int best = 0;
        for (int set = 1; set < 1 << house.borrowers; set++) {
            boolean more = Integer.bitCount(set) > Integer.bitCount(best);
            if (more && (set & ~content) == 0 && !house.clash(set)) {
                best = set;
            }
        }
        return what == 0 ? Integer.bitCount(best) : best;
    }

    public int colours() {
        int unlike = 0;
        for (int i = 0; i < house.cloths; i++) {
            unlike += isNewShade(i) ? 1 : 0;
        }
        for (int t = 0; t < house.things; t++) {
            unlike += isNewColour(t) ? 1 : 0;
        }
        return unlike;
    }

    public int least(int thing, int cloth, int n, int a) {
        if (!house.hasThing(thing) || !house.hasCloth(cloth) || !within(n, NIGHTS) || !within(a, PARTS)) {
            return refusedBad();
        }
        for (int t = 0; t < THINGS; t++) {
            otherColours[t] = house.colour[t];
        }
        for (int v = 0; v <= PARTS; v++) {
            otherColours[thing] = v;
            takings.reckon(house, house.hours, otherColours);
            Shades then = takings.behind(house.now, n);
            if (then.hasAtLeast(cloth, a)) {
                return v;
            }
        }
        return NONE;
    }

    public int sign(int what) {
        if (!within(what, 2)) {
            return refusedBad();
        }
        return fraction.size(what);
    }

    public int limb(int which, int i) {
        if (!within(which, 1) || i < 0) {
            return refusedBad();
        }
        return fraction.digit(which, i);
    }

    public int image(int i) {
        if (!within(i, IMAGES - 1)) {
            return refusedBad();
        }
        images[i].copyFrom(house);
        kept[i] = true;
        return 1;
    }

    public int from(int i) {
        if (!within(i, IMAGES - 1)) {
            return refusedBad();
        }
        if (!kept[i]) {
            return refusedNo();
        }
        house.copyFrom(images[i]);
        return 1;
    }

    public int status(int what) {
        switch (what) {
            case 0:
                return bads;
            case 1:
                return noes;
            case 2:
                return fulls;
            default:
                refusedBad();
                return -1;
        }
    }

    public int count(int what) {
        return within(what, 5) ? howMany(what) : refusedBad();
    }

    public long digest() {
        long h = 673;
        for (int what = 0; what <= 5; what++) {
            h = 31 * h + howMany(what);
        }
        return fraction.mixInto(house.mixInto(h));
    }

    private int howMany(int what) {
        switch (what) {
            case 0:
                return house.cloths;
            case 1:
                return house.things;
            case 2:
                return house.nights;
            case 3:
                return house.undoable;
            case 4:
                return reader.length;
            default:
                return house.borrowers;
        }
    }

    private int refusedBad() {
        bads++;
        return BAD;
    }

    private int refusedNo() {
        noes++;
        return NO;
    }

    private int refusedFull() {
        fulls++;
        return FULL;
    }

    private static boolean isShade(int a, int b) {
        return b >= 1 && b <= MOST_BELOW && a >= 0 && a <= b;
    }

    private boolean gives(int set, int a, int b) {
        sum.begin();
        for (int i = 0; i < house.cloths; i++) {
            if ((set >> i & 1) != 0) {
                sum.coef[i] = b;
            }
        }
        for (int t = 0; t < house.things; t++) {
            if ((set >> (CLOTHS + t) & 1) != 0) {
                sum.coef[UNIT] += (long) b * house.colour[t];
            }
        }
        sum.coef[UNIT] -= (long) PARTS * a * Integer.bitCount(set);
        return sum.isZeroIn(house.now);
    }

    private int contentBorrowers() {
        takings.reckon(house, house.hours, house.colour);
        int content = (1 << house.borrowers) - 1;
        Shades then = house.now;
        for (int night = 0; night <= NIGHTS; night++) {
            if (night > 0) {
                then = takings.behind(then, 1);
            }
            for (int k = 0; k < house.borrowers; k++) {
                int[] wish = house.wish[k];
                boolean wanted = wish[1] <= night && night <= wish[2];
                if (wanted && !serves(then, wish)) {
                    content &= ~(1 << k);
                }
            }
        }
        return content;
    }

    private boolean serves(Shades then, int[] wish) {
        // A house that was read may have fewer cloths than the borrowers were told of.
        return house.hasCloth(wish[0]) && then.hasAtLeast(wish[0], wish[3]);
    }

    private boolean isNewShade(int i) {
        for (int j = 0; j < i; j++) {
            if (house.now.compare(i, j, 1) == 0) {
                return false;
            }
        }
        return true;
    }

    private boolean isNewColour(int t) {
        for (int u = 0; u < t; u++) {
            if (house.colour[u] == house.colour[t]) {
                return false;
            }
        }
        for (int i = 0; i < house.cloths; i++) {
            if (house.now.compare(i, UNIT, house.colour[t]) == 0) {
                return false;
            }
        }
        return true;
    }

    private static boolean within(int v, int most) {
        return v >= 0 && v <= most;
    }

    private static void putHours(int[][] hours, int a, int b, int h) {
        if (a < CLOTHS) {
            hours[a][b] = h;
        }
        if (b < CLOTHS) {
            hours[b][a] = h;
        }
    }

    private static int greatestDivisor(int a, int b) {
        int x = a;
        int y = b;
        for (int k = 0; k < 64 && y != 0; k++) {
            int z = x % y;
            x = y;
            y = z;
        }
        return x;
    }

    /**
     * The shades of all cloths over one common denominator, so that a night needs no fraction
     * to be reduced: a cloth has its row by UNIT's row parts of twelve.
     */
    private static final class Shades {
        final int[] limb = new int[ROWS * LIMBS];
        // So many limbs hold twelve times UNIT, and so every shade; always fewer than LIMBS.
        int used;

        Shades() {
            reset();
        }

        /** Rows of cloths that are not there may hold anything. */
        void reset() {
            limb[UNIT * LIMBS] = 1;
            used = 1;
        }

        void copyFrom(Shades other) {
            System.arraycopy(other.limb, 0, limb, 0, ROWS * LIMBS);
            used = other.used;
        }

        void putParts(int row, int parts) {
            long carry = 0;
            for (int k = 0; k < used; k++) {
                long v = carry + (long) parts * limb[UNIT * LIMBS + k];
                limb[row * LIMBS + k] = (int) (v & LIMB_MASK);
                carry = v >> LIMB_BITS;
            }
        }

        /** The sign of a row less so many times another one. */
        int compare(int row, int other, int times) {
            int a = row * LIMBS;
            int b = other * LIMBS;
            long carry = 0;
            boolean some = false;
            for (int k = 0; k < used; k++) {
                long v = carry + limb[a + k] - (long) times * limb[b + k];
                some |= (v & LIMB_MASK) != 0;
                carry = v >> LIMB_BITS;
            }
            if (carry != 0) {
                return carry < 0 ? -1 : 1;
            }
            return some ? 1 : 0;
        }

        boolean hasAtLeast(int cloth, int parts) {
            return compare(cloth, UNIT, parts) >= 0;
        }

        boolean hasAtMost(int cloth, int parts) {
            return compare(cloth, UNIT, parts) <= 0;
        }

        /** All rows have been written one limb longer than before limbs: is that one needed? */
        void settle(int before) {
            long top = limb[UNIT * LIMBS + before - 1] + 1L;
            boolean longer = limb[UNIT * LIMBS + before] != 0 || top * PARTS > LIMB_BASE;
            used = longer && before + 1 < LIMBS ? before + 1 : before;
        }
    }

    /** A sum of rows, each by a factor. */
    private static final class Sum {
        final long[] coef = new long[ROWS];
        final long[] digits = new long[LIMBS];

        void begin() {
            for (int r = 0; r < ROWS; r++) {
                coef[r] = 0;
            }
        }

        /** Needs a sum that is not below 0; writes one limb more than are used. */
        void write(Shades of, int[] to, int base) {
            for (int k = 0; k < of.used; k++) {
                digits[k] = 0;
            }
            for (int r = 0; r < ROWS; r++) {
                long c = coef[r];
                for (int k = 0; c != 0 && k < of.used; k++) {
                    digits[k] += c * of.limb[r * LIMBS + k];
                }
            }
            long carry = 0;
            for (int k = 0; k < of.used; k++) {
                long v = digits[k] + carry;
                to[base + k] = (int) (v & LIMB_MASK);
                carry = v >> LIMB_BITS;
            }
            to[base + of.used] = (int) carry;
        }

        boolean isZeroIn(Shades of) {
            long carry = 0;
            for (int k = 0; k < of.used; k++) {
                long v = carry;
                for (int r = 0; r < ROWS; r++) {
                    v += coef[r] * of.limb[r * LIMBS + k];
                }
                if ((v & LIMB_MASK) != 0) {
                    return false;
                }
                carry = v >> LIMB_BITS;
            }
            return carry == 0;
        }
    }

    /** THE FRACTION: never below 0, in lowest terms. */
    private static final class Fraction {
        // A number of cloth hours and holds, at most 37, is what shades are divided by.
        private static final int[] PRIMES = {2, 3, 5, 7, 11, 13, 17, 19, 23, 29, 31, 37};
        private static final int MOST_FACTORS = 1000;

        final int[] above = new int[LIMBS];
        final int[] below = new int[LIMBS];
        int aboves = 0;
        int belows = 1;

        Fraction() {
            below[0] = 1;
        }

        /** The sum by twelve times UNIT, by so many times more (above 0). */
        void put(Sum sum, Shades of, int times) {
            sum.write(of, above, 0);
            aboves = trimmed(above, of.used + 1);
            if (aboves == 0) {
                below[0] = 1;
                belows = 1;
                return;
            }
            int common = Math.max(1, greatestDivisor(times, remainder(above, aboves, times)));
            divide(above, aboves, common);
            aboves = trimmed(above, aboves);
            sum.begin();
            sum.coef[UNIT] = (long) PARTS * (times / common);
            sum.write(of, below, 0);
            belows = trimmed(below, of.used + 1);
            reduce();
        }

        /** What is left in common stems from nights, not from times: small primes alone. */
        private void reduce() {
            for (int p : PRIMES) {
                for (int k = 0; k < MOST_FACTORS && bothDivide(p); k++) {
                    divide(above, aboves, p);
                    divide(below, belows, p);
                    aboves = trimmed(above, aboves);
                    belows = trimmed(below, belows);
                }
            }
        }

        private boolean bothDivide(int p) {
            return remainder(above, aboves, p) == 0 && remainder(below, belows, p) == 0;
        }

        private static int remainder(int[] of, int size, int by) {
            long rest = 0;
            for (int k = size - 1; k >= 0 && by > 0; k--) {
                rest = ((rest << LIMB_BITS) + of[k]) % by;
            }
            return (int) rest;
        }

        private static void divide(int[] of, int size, int by) {
            long rest = 0;
            for (int k = size - 1; k >= 0 && by > 1; k--) {
                long v = (rest << LIMB_BITS) + of[k];
                of[k] = (int) (v / by);
                rest = v % by;
            }
        }

        private static int trimmed(int[] of, int size) {
            int left = size;
            while (left > 0 && of[left - 1] == 0) {
                left--;
            }
            return left;
        }

        int size(int what) {
            if (what == 0) {
                return aboves > 0 ? 1 : 0;
            }
            return what == 1 ? aboves : belows;
        }

        int digit(int which, int i) {
            if (i >= (which == 0 ? aboves : belows)) {
                return NONE;
            }
            return which == 0 ? above[i] : below[i];
        }

        long mixInto(long start) {
            long h = start;
            for (int what = 0; what <= 2; what++) {
                h = 31 * h + size(what);
            }
            for (int k = 0; k < aboves; k++) {
                h = 31 * h + above[k];
            }
            for (int k = 0; k < belows; k++) {
                h = 31 * h + below[k];
            }
            return h;
        }
    }

    /** All that an image keeps. */
    private static final class House {
        final int[] kind = new int[CLOTHS];
        final int[] hold = new int[CLOTHS];
        final int[] least = new int[CLOTHS];
        final int[] most = new int[CLOTHS];
        final int[] colour = new int[THINGS];
        // Of each cloth with each number; those of what is not there are 0.
        final int[][] hours = new int[CLOTHS][NUMBERS];
        final Shades now = new Shades();
        final Shades[] past = new Shades[UNDOS];
        // Of each borrower the cloth, the first night, the last one, the parts of twelve.
        final int[][] wish = new int[BORROWERS][4];
        int cloths, things, nights, undoable, borrowers;

        House() {
            for (int k = 0; k < UNDOS; k++) {
                past[k] = new Shades();
            }
        }

        boolean hasCloth(int i) {
            return i >= 0 && i < cloths;
        }

        boolean hasThing(int t) {
            return t >= 0 && t < things;
        }

        boolean hasNumber(int n) {
            return hasCloth(n) || n >= CLOTHS && hasThing(n - CLOTHS);
        }

        boolean lends(int i) {
            return kind[i] != WHITE && kind[i] != VAIN;
        }

        boolean hasVain() {
            for (int i = 0; i < cloths; i++) {
                if (kind[i] == VAIN) {
                    return true;
                }
            }
            return false;
        }

        int lenders() {
            int bits = (1 << things) - 1 << CLOTHS;
            for (int i = 0; i < cloths; i++) {
                bits |= lends(i) ? 1 << i : 0;
            }
            return bits;
        }

        void addCloth(int ofKind, int ofHold, int shade) {
            if (cloths >= CLOTHS) {
                return;
            }
            kind[cloths] = ofKind;
            hold[cloths] = ofHold;
            least[cloths] = 0;
            most[cloths] = PARTS;
            now.putParts(cloths, shade);
            cloths++;
            // The shades of earlier nights do not know of this cloth.
            undoable = 0;
        }

        void addThing(int ofColour) {
            if (things < THINGS) {
                colour[things] = ofColour;
                things++;
            }
        }

        void addBorrower(int cloth, int first, int last, int parts) {
            if (borrowers < BORROWERS) {
                int[] w = wish[borrowers];
                w[0] = cloth;
                w[1] = first;
                w[2] = last;
                w[3] = parts;
                borrowers++;
            }
        }

        /** Borrowers stay: a house that is read takes the place of cloths, things and hours. */
        void emptyOut() {
            cloths = 0;
            things = 0;
            nights = 0;
            undoable = 0;
            now.reset();
            for (int i = 0; i < CLOTHS; i++) {
                for (int n = 0; n < NUMBERS; n++) {
                    hours[i][n] = 0;
                }
            }
        }

        void wakeUpWith(Shades next) {
            if (undoable == UNDOS) {
                Shades oldest = past[0];
                for (int k = 1; k < UNDOS; k++) {
                    past[k - 1] = past[k];
                }
                past[UNDOS - 1] = oldest;
                undoable--;
            }
            past[undoable].copyFrom(now);
            undoable++;
            now.copyFrom(next);
            nights++;
        }

        boolean goBack() {
            if (undoable <= 0) {
                return false;
            }
            undoable--;
            nights--;
            now.copyFrom(past[undoable]);
            return true;
        }

        boolean clash(int set) {
            for (int k = 0; k < borrowers; k++) {
                for (int m = 0; m < k; m++) {
                    if ((set >> k & set >> m & 1) != 0 && overlap(wish[k], wish[m])) {
                        return true;
                    }
                }
            }
            return false;
        }

        private static boolean overlap(int[] v, int[] w) {
            return v[0] == w[0] && v[1] <= w[2] && w[1] <= v[2];
        }

        void copyFrom(House other) {
            cloths = other.cloths;
            things = other.things;
            nights = other.nights;
            undoable = other.undoable;
            borrowers = other.borrowers;
            now.copyFrom(other.now);
            for (int k = 0; k < other.undoable; k++) {
                past[k].copyFrom(other.past[k]);
            }
            for (int k = 0; k < BORROWERS; k++) {
                System.arraycopy(other.wish[k], 0, wish[k], 0, 4);
            }
            for (int i = 0; i < CLOTHS; i++) {
                kind[i] = other.kind[i];
                hold[i] = other.hold[i];
                least[i] = other.least[i];
                most[i] = other.most[i];
                System.arraycopy(other.hours[i], 0, hours[i], 0, NUMBERS);
            }
            System.arraycopy(other.colour, 0, colour, 0, THINGS);
        }

        long mixInto(long start) {
            long h = start;
            for (int i = 0; i < cloths; i++) {
                h = 31 * h + kind[i];
                h = 31 * h + hold[i];
                h = 31 * h + least[i];
                h = 31 * h + most[i];
                for (int n = 0; n < NUMBERS; n++) {
                    h = 31 * h + hours[i][n];
                }
            }
            for (int t = 0; t < things; t++) {
                h = 31 * h + colour[t];
            }
            for (int k = 0; k < borrowers; k++) {
                for (int f = 0; f < 4; f++) {
                    h = 31 * h + wish[k][f];
                }
            }
            return h;
        }
    }

    /** Who takes how much of what in a night, and nights by it. */
    private static final class Takings {
        final Sum sum = new Sum();
        // Of each cloth: how much of each cloth; in column UNIT the colours by how much of each.
        final int[][] part = new int[CLOTHS][ROWS];
        // How much in all; 0 for a cloth that takes nothing, and for a vain one.
        final int[] whole = new int[CLOTHS];
        final boolean[] vain = new boolean[CLOTHS];
        // The greatest colour that a cloth touches, NONE if it touches no thing.
        final int[] greatest = new int[CLOTHS];
        int cloths;
        int shared;
        final Shades odd = new Shades();
        final Shades even = new Shades();

        void reckon(House house, int[][] hours, int[] colour) {
            cloths = house.cloths;
            shared = 1;
            for (int i = 0; i < cloths; i++) {
                vain[i] = house.kind[i] == VAIN;
                int taken = ofCloths(house, i, hours[i]) + ofThings(house, i, hours[i], colour);
                whole[i] = vain[i] ? 0 : taken;
                int common = greatestDivisor(shared, whole[i]);
                if (whole[i] > 0 && common > 0) {
                    shared = shared / common * whole[i];
                }
            }
        }

        private int ofCloths(House house, int i, int[] hours) {
            int taken = 0;
            for (int j = 0; j < cloths; j++) {
                part[i][j] = j != i && house.lends(j) ? hours[j] : 0;
                taken += part[i][j];
            }
            if (house.kind[i] == FAST || house.kind[i] == THIRSTY) {
                part[i][i] = house.hold[i] + 1;
                taken += part[i][i];
            }
            return taken;
        }

        private int ofThings(House house, int i, int[] hours, int[] colour) {
            int taken = 0;
            int times = house.kind[i] == THIRSTY ? 2 : 1;
            part[i][UNIT] = 0;
            greatest[i] = NONE;
            for (int t = 0; t < house.things; t++) {
                int much = times * hours[CLOTHS + t];
                part[i][UNIT] += much * colour[t];
                taken += much;
                if (much > 0 && colour[t] > greatest[i]) {
                    greatest[i] = colour[t];
                }
            }
            return taken;
        }

        /** The answer stands in start, or in one of two rows that the next call writes anew. */
        Shades behind(Shades start, int n) {
            Shades at = start;
            for (int k = 0; k < n; k++) {
                Shades next = at == odd ? even : odd;
                night(at, next);
                at = next;
            }
            return at;
        }

        private void night(Shades before, Shades after) {
            for (int i = 0; i < cloths; i++) {
                if (vain[i]) {
                    takeGreatest(i, before);
                } else {
                    takeMean(i);
                }
                sum.write(before, after.limb, i * LIMBS);
            }
            sum.begin();
            sum.coef[UNIT] = shared;
            sum.write(before, after.limb, UNIT * LIMBS);
            after.settle(before.used);
        }

        private void takeMean(int i) {
            sum.begin();
            if (whole[i] <= 0) {
                sum.coef[i] = shared;
                return;
            }
            int times = shared / whole[i];
            for (int j = 0; j < cloths; j++) {
                sum.coef[j] = (long) times * part[i][j];
            }
            sum.coef[UNIT] = (long) times * part[i][UNIT];
        }

        private void takeGreatest(int i, Shades before) {
            int row = greatest[i] == NONE ? NONE : UNIT;
            int times = greatest[i];
            for (int j = 0; j < cloths; j++) {
                boolean touched = part[i][j] > 0;
                if (touched && (row == NONE || before.compare(j, row, times) > 0)) {
                    row = j;
                    times = 1;
                }
            }
            sum.begin();
            if (row == NONE) {
                sum.coef[i] = shared;
            } else {
                sum.coef[row] = (long) shared * times;
            }
        }
    }

    /** The shades that stay, by Cramer's rule over small numbers. */
    private static final class Resting {
        final int[][] matrix = new int[CLOTHS][CLOTHS];

        /**
         * The rest of a cloth is the sum by twelve times UNIT times the answer;
         * 0 if there is not just one. Cofactors are never below 0 here: no row takes more
         * of the others than it is in all.
         */
        int solve(Takings takings, int cloth, Sum sum) {
            fill(takings);
            sum.begin();
            int determinant = 0;
            for (int k = 0; k < CLOTHS; k++) {
                int cofactor = (k + cloth & 1) == 0 ? minor(k, cloth) : -minor(k, cloth);
                determinant += matrix[k][cloth] * cofactor;
                if (k >= takings.cloths) {
                    continue;
                }
                if (takings.whole[k] == 0) {
                    sum.coef[k] += cofactor;
                } else {
                    sum.coef[UNIT] += (long) cofactor * takings.part[k][UNIT];
                }
            }
            return determinant;
        }

        private void fill(Takings takings) {
            for (int i = 0; i < CLOTHS; i++) {
                boolean fixed = i >= takings.cloths || takings.whole[i] == 0;
                for (int j = 0; j < CLOTHS; j++) {
                    boolean takes = !fixed && j != i && j < takings.cloths;
                    matrix[i][j] = takes ? -takings.part[i][j] : 0;
                }
                matrix[i][i] = fixed ? 1 : takings.whole[i] - takings.part[i][i];
            }
        }

        private int minor(int row, int column) {
            int[] a = matrix[row == 0 ? 1 : 0];
            int[] b = matrix[row <= 1 ? 2 : 1];
            int[] c = matrix[row <= 2 ? 3 : 2];
            int x = column == 0 ? 1 : 0;
            int y = column <= 1 ? 2 : 1;
            int z = column <= 2 ? 3 : 2;
            return a[x] * (b[y] * c[z] - b[z] * c[y])
                    - a[y] * (b[x] * c[z] - b[z] * c[x])
                    + a[z] * (b[x] * c[y] - b[y] * c[x]);
        }
    }

    /** The fewest moves: a move is numbered 16 times the lesser number, 2 times the other, 0 or 1. */
    private static final class Mover {
        private static final int MOVES = 2 * CLOTHS * NUMBERS;

        final int[][] hours = new int[CLOTHS][NUMBERS];
        int goal, fewestParts, mostParts, nights;
        int first, second;

        void aim(int cloth, int a, int b, int n) {
            goal = cloth;
            fewestParts = a;
            mostParts = b;
            nights = n;
        }

        int search(House house, Takings takings) {
            for (int i = 0; i < CLOTHS; i++) {
                System.arraycopy(house.hours[i], 0, hours[i], 0, NUMBERS);
            }
            if (reached(house, takings)) {
                return 0;
            }
            first = reachedByOneMore(house, takings, 0);
            if (first != NONE) {
                return 1;
            }
            for (int m = 0; m < MOVES; m++) {
                if (changes(house, m)) {
                    put(m, hoursOf(m));
                    first = m;
                    // Both moves of a pair stand side by side; the second is of a later pair.
                    second = reachedByOneMore(house, takings, (m | 1) + 1);
                    if (second != NONE) {
                        return 2;
                    }
                    putBack(m, house);
                }
            }
            return NONE;
        }

        private int reachedByOneMore(House house, Takings takings, int start) {
            for (int m = start; m < MOVES; m++) {
                if (changes(house, m)) {
                    put(m, hoursOf(m));
                    if (reached(house, takings)) {
                        return m;
                    }
                    putBack(m, house);
                }
            }
            return NONE;
        }

        private boolean reached(House house, Takings takings) {
            takings.reckon(house, hours, house.colour);
            Shades then = takings.behind(house.now, nights);
            return then.hasAtLeast(goal, fewestParts) && then.hasAtMost(goal, mostParts);
        }

        /** A move that changes nothing for the cloth is never one of the fewest. */
        private boolean changes(House house, int m) {
            int a = lesser(m);
            int b = other(m);
            if (a >= b || !house.hasCloth(a) || !house.hasNumber(b)) {
                return false;
            }
            boolean tooFar = nights == 1 && a != goal && b != goal;
            return !tooFar && house.hours[a][b] != hoursOf(m);
        }

        private void put(int m, int h) {
            putHours(hours, lesser(m), other(m), h);
        }

        private void putBack(int m, House house) {
            put(m, house.hours[lesser(m)][other(m)]);
        }

        private static int lesser(int m) {
            return m >> 4 & 3;
        }

        private static int other(int m) {
            return m >> 1 & 7;
        }

        private static int hoursOf(int m) {
            return (m & 1) == 0 ? 0 : MOST_HOURS;
        }

        int told(int m) {
            return 1000 * lesser(m) + 100 * other(m) + hoursOf(m);
        }
    }

    /** Orders in which all cloths may lie. */
    private static final class Chest {
        final int[][] hours = new int[CLOTHS][NUMBERS];
        final int[] order = new int[CLOTHS];
        final int[] first = new int[CLOTHS];

        int countOrders(House house, Takings takings) {
            int ways = 1;
            for (int k = 0; k < house.cloths; k++) {
                ways *= house.cloths;
            }
            int orders = 0;
            for (int way = 0; way < ways; way++) {
                if (lay(way, house.cloths) && fits(house, takings)) {
                    if (orders == 0) {
                        System.arraycopy(order, 0, first, 0, CLOTHS);
                    }
                    orders++;
                }
            }
            return orders;
        }

        /** The way's figures to the base of cloths are the order, if no cloth lies there twice. */
        private boolean lay(int way, int cloths) {
            int left = way;
            int seen = 0;
            for (int k = cloths - 1; k >= 0; k--) {
                order[k] = left % cloths;
                left /= cloths;
                seen |= 1 << order[k];
            }
            return seen == (1 << cloths) - 1;
        }

        private boolean fits(House house, Takings takings) {
            for (int i = 0; i < CLOTHS; i++) {
                for (int n = 0; n < NUMBERS; n++) {
                    hours[i][n] = 0;
                }
            }
            for (int k = 1; k < house.cloths; k++) {
                putHours(hours, order[k - 1], order[k], MOST_HOURS);
            }
            takings.reckon(house, hours, house.colour);
            Shades then = takings.behind(house.now, 1);
            for (int i = 0; i < house.cloths; i++) {
                if (!then.hasAtLeast(i, house.least[i]) || !then.hasAtMost(i, house.most[i])) {
                    return false;
                }
            }
            return true;
        }
    }

    /** THE TEXT, and a house read from it. */
    private static final class Reader {
        private static final int END = 0, CLOTH = 1, THING = 2, TOUCH = 3, NUMBER = 4, STOP = 5, WRONG = 6;

        final int[] text = new int[TEXT_BYTES];
        int length;
        private int place, start, token, value;
        private int cloths, things;

        void append(long v, int n) {
            for (int k = n - 1; k >= 0 && length < TEXT_BYTES; k--) {
                text[length] = (int) (v >> 8 * k & 255);
                length++;
            }
        }

        /** How many items, or FAULT_BASE less the fault; the house may be null, to look alone. */
        int readInto(House house) {
            place = 0;
            cloths = 0;
            things = 0;
            for (int items = 0; items <= TEXT_BYTES; items++) {
                next();
                if (token == END) {
                    return items;
                }
                int word = token;
                boolean fine = word == CLOTH && clothItem(house)
                        || word == THING && thingItem(house)
                        || word == TOUCH && touchItem(house);
                if (!fine) {
                    break;
                }
            }
            return FAULT_BASE - start;
        }

        private boolean clothItem(House house) {
            if (cloths >= CLOTHS || !number(MOST_KIND)) {
                return false;
            }
            int kind = value;
            if (!number(MOST_HOLD)) {
                return false;
            }
            int hold = value;
            if (!number(PARTS) || !stop()) {
                return false;
            }
            cloths++;
            if (house != null) {
                // A stop is no number: the last one's worth still stands.
                house.addCloth(kind, hold, value);
            }
            return true;
        }

        private boolean thingItem(House house) {
            if (things >= THINGS || !number(PARTS) || !stop()) {
                return false;
            }
            things++;
            if (house != null) {
                house.addThing(value);
            }
            return true;
        }

        private boolean touchItem(House house) {
            if (!number(NUMBERS - 1) || !isThere(value)) {
                return false;
            }
            int a = value;
            if (!number(NUMBERS - 1) || !isThere(value) || value == a) {
                return false;
            }
            int b = value;
            if (a >= CLOTHS && b >= CLOTHS || !number(MOST_HOURS) || !stop()) {
                return false;
            }
            if (house != null) {
                putHours(house.hours, a, b, value);
            }
            return true;
        }

        private boolean isThere(int n) {
            return n < CLOTHS ? n < cloths : n - CLOTHS < things;
        }

        private boolean number(int most) {
            next();
            return token == NUMBER && value <= most;
        }

        private boolean stop() {
            next();
            return token == STOP;
        }

        private void next() {
            while (place < length && text[place] == ' ') {
                place++;
            }
            start = place;
            if (place >= length) {
                token = END;
            } else if (isLetter(text[place])) {
                nextWord();
            } else if (isFigure(text[place])) {
                nextNumber();
            } else {
                token = text[place] == ';' ? STOP : WRONG;
                place++;
            }
        }

        private void nextWord() {
            while (place < length && isLetter(text[place])) {
                place++;
            }
            if (spells("cloth")) {
                token = CLOTH;
            } else if (spells("thing")) {
                token = THING;
            } else {
                token = spells("touch") ? TOUCH : WRONG;
            }
        }

        private boolean spells(String word) {
            if (place - start != word.length()) {
                return false;
            }
            for (int k = 0; k < word.length(); k++) {
                if (text[start + k] != word.charAt(k)) {
                    return false;
                }
            }
            return true;
        }

        private void nextNumber() {
            value = 0;
            while (place < length && isFigure(text[place])) {
                // A third figure makes it no number, so its worth does not matter from there.
                if (place - start < 2) {
                    value = 10 * value + text[place] - '0';
                }
                place++;
            }
            token = place - start <= 2 ? NUMBER : WRONG;
        }

        private static boolean isLetter(int c) {
            return c >= 'a' && c <= 'z';
        }

        private static boolean isFigure(int c) {
            return c >= '0' && c <= '9';
        }
    }
}
