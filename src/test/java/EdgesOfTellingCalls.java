import java.math.BigInteger;
import java.util.ArrayList;
import java.util.List;

/** Promises 24 to 30: what there is. */
final class EdgesOfTellingCalls {
    private static final int NONE = Edges.NONE, BAD = Edges.BAD, NO = Edges.NO, FULL = Edges.FULL;

    private final Edges e;

    private EdgesOfTellingCalls(Edges e) {
        this.e = e;
    }

    static void tell(Edges e) {
        EdgesOfTellingCalls t = new EdgesOfTellingCalls(e);
        t.sign();
        t.limb();
        t.image();
        t.from();
        t.status();
        t.count();
        t.digest();
        t.digestWrapsAround();
    }

    /** THE FRACTION is 3 by 5 to the 12th: one limb above, more than one below if that is 5 to the 13th or more. */
    private static LentShades fifths(int nights) {
        LentShades x = Edges.house("cloth 1 0 12;thing 0;thing 0;touch 0 4 3;touch 0 5 1;");
        for (int k = 12; k < nights; k++) {
            x.sleep();
        }
        x.shade(0, Math.min(nights, 12));
        return x;
    }

    private void sign() {
        e.sentence("Promise 24", "THE FRACTION: its sign (0: -1, 0, 1), how many limbs above (1), below (2).",
                "of 0, of 1, of one limb, of two, of more; nothing is changed", () -> {
            e.quiet("sign of 0", Edges::empty, x -> x.sign(0), 0);
            e.quiet("above of 0", Edges::empty, x -> x.sign(1), 0);
            e.quiet("below of 0", Edges::empty, x -> x.sign(2), 1);
            Edges.State one = () -> fifths(0);
            e.quiet("sign of 1", one, x -> x.sign(0), 1);
            e.quiet("above of 1", one, x -> x.sign(1), 1);
            e.quiet("below of 1", one, x -> x.sign(2), 1);
            // 5 to the 12th is below the base, to the 13th above it; to the 24th below its square.
            int[] nights = {12, 13, 24};
            int[] limbs = {1, 2, 2};
            for (int k = 0; k < 3; k++) {
                int n = nights[k];
                e.quiet("sign of 1 by 5 to the " + n, () -> fifths(n), x -> x.sign(0), 1);
                e.quiet("above of 1 by 5 to the " + n, () -> fifths(n), x -> x.sign(1), 1);
                e.quiet("below of 1 by 5 to the " + n, () -> fifths(n), x -> x.sign(2), limbs[k]);
            }
            // Red comes from the first thing: 3 quarters, less 1 by 5 to the 24th of less than that.
            LentShades x = fifths(24);
            x.colour(0, 12);
            x.shade(0, 12);
            e.due("above of two limbs", x.sign(1), 2);
            e.due("below of two limbs", x.sign(2), 2);
            for (int what = 0; what <= 2; what++) {
                int w = what;
                e.asksAlone("sign(" + what + ")", Edges::furnished, y -> y.sign(w));
                e.asksAlone("sign(" + what + ")", Edges::full, y -> y.sign(w));
            }
        });
        e.sentence("Promise 24", "BAD.", "what 0 to 2", () -> {
            e.only(0, 2, "sign(v)", Edges::empty, LentShades::sign, BAD);
            e.only(0, 2, "sign(v)", Edges::furnished, LentShades::sign, BAD);
            e.only(0, 2, "sign(v)", Edges::full, LentShades::sign, BAD);
        });
    }

    private void limb() {
        e.sentence("Promise 25", "Limb i above (0), below (1).", "the first, the last; a limb of 0, of 1073741823; nothing is changed", () -> {
            e.quiet("below of 0", Edges::empty, x -> x.limb(1, 0), 1);
            BigInteger power = BigInteger.valueOf(5).pow(13);
            long base = 1073741824L;
            e.quiet("above", () -> fifths(13), x -> x.limb(0, 0), 1);
            e.quiet("the lowest", () -> fifths(13), x -> x.limb(1, 0), power.longValue() % base);
            e.quiet("the highest", () -> fifths(13), x -> x.limb(1, 1), power.longValue() / base);
            for (int i = 0; i < 2; i++) {
                int place = i;
                e.asksAlone("limb(0, " + i + ")", Edges::full, x -> x.limb(0, place));
                e.asksAlone("limb(1, " + i + ")", Edges::furnished, x -> x.limb(1, place));
            }
        });
        e.sentence("Promise 25", "NONE: not so many.", "i as many as there are, far more; 0 has none above", () -> {
            for (int i : new int[] {0, 1, 19, 20, 21, 1 << 30, Integer.MAX_VALUE}) {
                e.quiet("above of 0", Edges::empty, x -> x.limb(0, i), NONE);
                if (i > 0) {
                    e.quiet("below of 0", Edges::empty, x -> x.limb(1, i), NONE);
                    e.quiet("above of one", () -> fifths(13), x -> x.limb(0, i), NONE);
                }
                if (i > 1) {
                    e.quiet("below of two", () -> fifths(13), x -> x.limb(1, i), NONE);
                }
            }
            // A longer fraction ahead of it leaves no limb behind.
            Edges.State shorter = () -> {
                LentShades x = fifths(13);
                x.touch(0, 4, 0);
                x.touch(0, 5, 0);
                x.thing(12);
                x.touch(0, 6, 1);
                x.undo();
                x.shade(0, 0);
                return x;
            };
            e.quiet("above of 1", shorter, x -> x.limb(0, 0), 1);
            e.quiet("above of 1", shorter, x -> x.limb(0, 1), NONE);
            e.quiet("below of 1", shorter, x -> x.limb(1, 0), 1);
            e.quiet("below of 1", shorter, x -> x.limb(1, 1), NONE);
        });
        e.sentence("Promise 25", "BAD: i below 0, too.", "which 0 to 1; i of -1 and far below, with limbs or none", () -> {
            e.only(0, 1, "limb(v, 0)", Edges::empty, (x, v) -> x.limb(v, 0), BAD);
            e.only(0, 1, "limb(v, 0)", Edges::furnished, (x, v) -> x.limb(v, 0), BAD);
            e.only(0, 1, "limb(v, 99)", Edges::full, (x, v) -> x.limb(v, 99), BAD);
            for (Edges.State state : new Edges.State[] {Edges::empty, Edges::furnished, Edges::full}) {
                for (int i : new int[] {-1, -2, -20, -256, Integer.MIN_VALUE}) {
                    e.refused("limb(0, " + i + ")", state, x -> x.limb(0, i), BAD, Edges.BADS);
                    e.refused("limb(1, " + i + ")", state, x -> x.limb(1, i), BAD, Edges.BADS);
                    e.refused("limb(2, " + i + ")", state, x -> x.limb(2, i), BAD, Edges.BADS);
                }
            }
        });
    }

    private void image() {
        e.sentence("Promise 26", "An IMAGE is kept: 1.", "of nothing, of all; kept anew, the other one stays; what there is stays", () -> {
            for (int i = 0; i < 2; i++) {
                LentShades x = new LentShades();
                e.due("of nothing", x.image(i), 1);
                x.cloth(0, 0, 5);
                e.due("kept anew", x.image(i), 1);
                e.due("the other one", x.image(1 - i), 1);
                x.cloth(0, 0, 7);
                e.due("the other one anew", x.image(1 - i), 1);
                x.cloth(0, 0, 9);
                x.from(i);
                e.due("CLOTHS of the one", x.count(0), 1);
                x.from(1 - i);
                e.due("CLOTHS of the other one", x.count(0), 2);
                e.status(x, 0, 0, 0);
                int kept = i;
                LentShades y = Edges.full();
                y.image(kept);
                y.image(1 - kept);
                LentShades z = Edges.full();
                z.image(1 - kept);
                z.image(kept);
                e.alike("of all", y, z);
            }
        });
        e.sentence("Promise 26", "BAD.", "i 0 to 1", () -> {
            e.only(0, 1, "image(v)", Edges::empty, LentShades::image, BAD);
            e.only(0, 1, "image(v)", Edges::furnished, LentShades::image, BAD);
            e.only(0, 1, "image(v)", Edges::full, LentShades::image, BAD);
        });
    }

    private void from() {
        e.sentence("Promise 27", "It goes on from an IMAGE: 1.", "from nothing, from all, twice; THE TEXT, THE FRACTION, STATUS stay", () -> {
            LentShades x = Edges.full();
            LentShades y = Edges.full();
            x.image(0);
            y.image(0);
            e.due("from where it is", x.from(0), 1);
            e.due("twice", x.from(0), 1);
            e.alike("from where it is", x, y);
            LentShades z = Edges.furnished();
            int length = z.count(4);
            int[] status = {z.status(0), z.status(1), z.status(2)};
            long[] limbs = {z.sign(0), z.sign(1), z.sign(2), z.limb(0, 0), z.limb(1, 0)};
            e.due("the third NIGHT", z.count(2), 3);
            e.due("from(0)", z.from(0), 1);
            e.due("the second NIGHT", z.count(2), 2);
            e.due("two may be undone", z.count(3), 2);
            e.due("THE TEXT", z.count(4), length);
            e.status(z, status[0], status[1], status[2]);
            long[] got = {z.sign(0), z.sign(1), z.sign(2), z.limb(0, 0), z.limb(1, 0)};
            for (int k = 0; k < limbs.length; k++) {
                e.due("THE FRACTION", got[k], limbs[k]);
            }
        });
        e.sentence("Promise 27", "BAD;", "i 0 to 1, kept or not", () -> {
            e.only(0, 1, "from(v)", Edges::empty, LentShades::from, BAD);
            e.only(0, 1, "from(v)", Edges::furnished, LentShades::from, BAD);
            e.only(0, 1, "from(v)", Edges::full, LentShades::from, BAD);
        });
        e.sentence("Promise 27", "NO: none was kept.", "of a new object; the other one, if one was kept", () -> {
            e.refused("from(0)", Edges::empty, x -> x.from(0), NO, Edges.NOES);
            e.refused("from(1)", Edges::empty, x -> x.from(1), NO, Edges.NOES);
            e.refused("from(1)", Edges::furnished, x -> x.from(1), NO, Edges.NOES);
            LentShades x = Edges.furnished();
            x.from(0);
            e.due("behind from(0)", x.from(1), NO);
            LentShades y = new LentShades();
            y.image(1);
            e.due("from(0)", y.from(0), NO);
            e.due("from(1)", y.from(1), 1);
            y.image(2);
            e.due("behind a refused one", y.from(0), NO);
            y.image(0);
            e.due("from(0)", y.from(0), 1);
        });
    }

    private void status() {
        e.sentence("Promise 28", "STATUS: BAD (0), NO (1), FULL (2).", "0 of each at first; each told alone; nothing is changed", () -> {
            for (int what = 0; what <= 2; what++) {
                int w = what;
                e.quiet("status(" + what + ")", Edges::empty, x -> x.status(w), 0);
                e.quiet("status(" + what + ")", Edges::furnished, x -> x.status(w), 3 - w);
            }
            LentShades x = new LentShades();
            x.undo();
            e.status(x, 0, 1, 0);
            x.type(0, 8);
            x.type(0, 9);
            e.status(x, 1, 1, 0);
            for (int k = 0; k < 25; k++) {
                x.type(0, 8);
            }
            e.status(x, 1, 1, 1);
        });
        e.sentence("Promise 28", "-1: another what (counts as BAD).", "-1, 3, far off", () -> {
            for (Edges.State state : new Edges.State[] {Edges::empty, Edges::furnished, Edges::full}) {
                for (int what : new int[] {-1, 3, -2, 4, 256, -256, Integer.MIN_VALUE, Integer.MAX_VALUE}) {
                    e.refused("status(" + what + ")", state, x -> x.status(what), -1, Edges.BADS);
                }
            }
            LentShades x = new LentShades();
            x.status(-1);
            x.status(3);
            e.due("two of them", x.status(0), 2);
        });
    }

    private void count() {
        e.sentence("Promise 29",
                "How many: 0 CLOTHS, 1 THINGS, 2 NIGHTS that were slept, 3 that may be undone, 4 bytes of THE TEXT, 5 BORROWERS.",
                "all 0, all as many as there can be, each by itself; nothing is changed", () -> {
            int[] furnished = {3, 3, 3, 3, 56, 5};
            int[] full = {4, 4, 12, 6, 200, 6};
            for (int what = 0; what <= 5; what++) {
                int w = what;
                e.quiet("count(" + what + ")", Edges::empty, x -> x.count(w), 0);
                e.quiet("count(" + what + ")", Edges::furnished, x -> x.count(w), furnished[what]);
                e.quiet("count(" + what + ")", Edges::full, x -> x.count(w), full[what]);
            }
            LentShades x = new LentShades();
            int[] due = new int[6];
            for (int k = 1; k <= 12; k++) {
                x.sleep();
                due[2] = k;
                due[3] = Math.min(6, k);
                counts(x, due);
            }
            for (int k = 1; k <= 4; k++) {
                x.cloth(0, 0, 0);
                due[0] = k;
                due[3] = 0;
                counts(x, due);
            }
        });
        e.sentence("Promise 29", "BAD.", "what 0 to 5", () -> {
            e.only(0, 5, "count(v)", Edges::empty, LentShades::count, BAD);
            e.only(0, 5, "count(v)", Edges::furnished, LentShades::count, BAD);
            e.only(0, 5, "count(v)", Edges::full, LentShades::count, BAD);
        });
    }

    private void counts(LentShades x, int... due) {
        for (int what = 0; what <= 5; what++) {
            e.due("count(" + what + ")", x.count(what), due[what]);
        }
    }

    /** As the promise tells it; the counts, cloths, things and borrowers told by the test. */
    private long dueDigest(LentShades x, long[]... told) {
        List<Long> all = new ArrayList<>();
        for (long[] part : told) {
            for (long v : part) {
                all.add(v);
            }
        }
        for (int what = 0; what <= 2; what++) {
            all.add((long) x.sign(what));
        }
        for (int which = 0; which <= 1; which++) {
            for (int i = 0; i < x.sign(1 + which); i++) {
                all.add((long) x.limb(which, i));
            }
        }
        return Edges.digest(all.stream().mapToLong(v -> v).toArray());
    }

    private static long[] row(long... values) {
        return values;
    }

    private void digest() {
        e.sentence("Promise 30", "h = 673; then h = 31 h + v for each v: count(0) to count(5);", "all 0, each by itself", () -> {
            e.due("a new object", new LentShades().digest(), Edges.digest(0, 0, 0, 0, 0, 0, 0, 0, 1, 1));
            LentShades x = new LentShades();
            x.sleep();
            e.due("a NIGHT", x.digest(), Edges.digest(0, 0, 1, 1, 0, 0, 0, 0, 1, 1));
            x.type(0, 5);
            e.due("five bytes", x.digest(), Edges.digest(0, 0, 1, 1, 5, 0, 0, 0, 1, 1));
            x.undo();
            e.due("no NIGHT", x.digest(), Edges.digest(0, 0, 0, 0, 5, 0, 0, 0, 1, 1));
            e.status(x, 0, 0, 0);
            x.undo();
            x.cloth(5, 0, 0);
            e.due("STATUS does not count", x.digest(), Edges.digest(0, 0, 0, 0, 5, 0, 0, 0, 1, 1));
            x.image(0);
            e.due("IMAGES do not count", x.digest(), Edges.digest(0, 0, 0, 0, 5, 0, 0, 0, 1, 1));
        });
        e.sentence("Promise 30", "of CLOTHS KIND, HOLD, LEAST, MOST, HOURS of NUMBERS 0 .. 7;", "one, four; no SHADES; its own NUMBER, too, as 0", () -> {
            LentShades x = new LentShades();
            x.cloth(4, 3, 11);
            e.due("one", x.digest(), Edges.digest(1, 0, 0, 0, 0, 0, 4, 3, 0, 12, 0, 0, 0, 0, 0, 0, 0, 0, 0, 0, 1, 1));
            e.due("full", Edges.full().digest(), dueFull());
        });
        e.sentence("Promise 30", "COLOURS of THINGS;", "one, two, four", () -> {
            LentShades x = new LentShades();
            x.thing(12);
            e.due("one", x.digest(), Edges.digest(0, 1, 0, 0, 0, 0, 12, 0, 0, 1, 1));
            x.thing(0);
            e.due("two", x.digest(), Edges.digest(0, 2, 0, 0, 0, 0, 12, 0, 0, 0, 1, 1));
            x.thing(7);
            x.thing(1);
            e.due("four", x.digest(), Edges.digest(0, 4, 0, 0, 0, 0, 12, 0, 7, 1, 0, 0, 1, 1));
        });
        e.sentence("Promise 30", "of BORROWERS CLOTH, the NIGHTS, a;", "one, two; none behind refuse()", () -> {
            LentShades x = Edges.house("cloth 0 0 0;cloth 0 0 0;");
            long[] cloths = new long[24];
            cloths[3] = 12;
            cloths[15] = 12;
            x.borrower(1, 3, 12, 7);
            e.due("one", x.digest(), dueDigest(x, row(2, 0, 0, 0, 0, 1), cloths, row(1, 3, 12, 7)));
            x.borrower(0, 0, 0, 12);
            e.due("two", x.digest(), dueDigest(x, row(2, 0, 0, 0, 0, 2), cloths, row(1, 3, 12, 7, 0, 0, 0, 12)));
            x.refuse();
            e.due("none", x.digest(), dueDigest(x, row(2, 0, 0, 0, 0, 0), cloths));
        });
        e.sentence("Promise 30", "THE FRACTION: sign(0) to sign(2), all limbs above, below.", "0, 1, two limbs", () -> {
            LentShades x = Edges.house("cloth 1 0 12;thing 0;thing 0;touch 0 4 3;touch 0 5 1;");
            long[] cloth = {1, 0, 0, 12, 0, 0, 0, 0, 3, 1, 0, 0};
            e.due("0", x.digest(), Edges.digest(1, 2, 0, 0, 0, 0, 1, 0, 0, 12, 0, 0, 0, 0, 3, 1, 0, 0, 0, 0, 0, 0, 1, 1));
            x.shade(0, 0);
            e.due("1", x.digest(), Edges.digest(1, 2, 0, 0, 0, 0, 1, 0, 0, 12, 0, 0, 0, 0, 3, 1, 0, 0, 0, 0, 1, 1, 1, 1, 1));
            x.sleep();
            x.shade(0, 12);
            // 5 to the 13th is 146961301 and 1 times the base.
            e.due("two limbs", x.digest(), dueDigest(x, row(1, 2, 1, 1, 0, 0), cloth, row(0, 0)));
            e.due("by hand", x.digest(), Edges.digest(1, 2, 1, 1, 0, 0, 1, 0, 0, 12, 0, 0, 0, 0, 3, 1, 0, 0, 0, 0, 1, 1, 2, 1, 146961301, 1));
        });
    }

    private long dueFull() {
        LentShades x = Edges.full();
        return dueDigest(x, row(4, 4, 12, 6, 200, 6),
                row(1, 3, 0, 12, 0, 1, 2, 1, 0, 0, 0, 0),
                row(2, 0, 0, 12, 1, 0, 3, 0, 0, 0, 0, 3),
                row(3, 1, 0, 12, 2, 3, 0, 0, 1, 0, 1, 0),
                row(4, 2, 2, 9, 1, 0, 0, 0, 0, 2, 0, 0),
                row(12, 0, 3, 9),
                row(0, 0, 0, 0, 1, 1, 2, 1, 2, 2, 4, 2, 3, 3, 6, 3, 0, 4, 8, 4, 1, 5, 10, 5));
    }

    private void digestWrapsAround() {
        e.sentence("Promise 30", "then h = 31 h + v for each v:", "it wraps around at 64 bits, and is asked alone", () -> {
            LentShades x = new LentShades();
            // Ten values do not fill 64 bits; of the eighteen of a cloth more, the most do.
            BigInteger h = BigInteger.valueOf(673);
            x.cloth(0, 0, 0);
            long[] values = {1, 0, 0, 0, 0, 0, 0, 0, 0, 12, 0, 0, 0, 0, 0, 0, 0, 0, 0, 0, 1, 1};
            for (long v : values) {
                h = h.multiply(BigInteger.valueOf(31)).add(BigInteger.valueOf(v));
            }
            e.due("it is more than 64 bits", h.bitLength() > 64 ? 1 : 0, 1);
            e.due("digest", x.digest(), h.longValue());
            e.asksAlone("digest", Edges::empty, LentShades::digest);
            e.asksAlone("digest", Edges::furnished, LentShades::digest);
            e.asksAlone("digest", Edges::full, LentShades::digest);
        });
    }
}
