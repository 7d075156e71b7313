import java.math.BigInteger;

/** The last one of each row that there is, and short answers behind long ones: what a row that ends too early shows. */
final class EdgesOfLastOnes {
    private static final int NONE = Edges.NONE;

    private final Edges e;

    private EdgesOfLastOnes(Edges e) {
        this.e = e;
    }

    static void tell(Edges e) {
        EdgesOfLastOnes t = new EdgesOfLastOnes(e);
        t.imagesOfEach();
        t.leastAmidOthers();
        t.restOfFour();
        t.restOfLongOnes();
        t.morningJustSo();
        t.shortBehindLong();
    }

    private void term(String words, String edge, Runnable test) {
        e.sentence("Terms", words, edge, test);
    }

    /** Each change alone is gone behind an image of ahead of it, and stays behind one that was kept anew. */
    private void imagesOfEach() {
        term("IMAGES 0, 1 keep all but them, THE TEXT, THE FRACTION and STATUS;", "each BOUND, COLOUR, BORROWER, all HOURS of a full house by itself", () -> {
            for (int i = 0; i < 4; i++) {
                int one = i;
                comesBack("LEAST, MOST of " + i, x -> x.bound(one, 6, 7));
                comesBack("COLOUR of " + i, x -> x.colour(one, 8));
                for (int n = i + 1; n < 8; n++) {
                    int other = n;
                    for (int h = 0; h <= 3; h += 3) {
                        int hours = h;
                        comesBack("HOURS of " + i + " and " + n, x -> x.touch(one, other, hours));
                    }
                }
            }
            for (int k = 0; k < 6; k++) {
                int unlike = k;
                comesBack("BORROWER " + k, x -> borrowersBut(x, unlike));
            }
        });
    }

    private static int borrowersBut(LentShades x, int unlike) {
        x.refuse();
        for (int k = 0; k < 6; k++) {
            // As those of a full house, but one.
            x.borrower(k % 4, k, 2 * k, k == unlike ? 11 : k);
        }
        return x.count(5);
    }

    private void comesBack(String what, Edges.Call change) {
        for (int i = 0; i < 2; i++) {
            LentShades x = Edges.full();
            x.image(i);
            change.on(x);
            e.due(what + ": from", x.from(i), 1);
            LentShades twin = Edges.full();
            twin.image(i);
            e.alike(what + " comes back", x, twin);
            LentShades y = Edges.full();
            y.image(i);
            change.on(y);
            y.image(i);
            LentShades changed = Edges.full();
            change.on(changed);
            changed.image(i);
            // Another house stands there until it goes on from the image.
            y.read();
            y.from(i);
            e.alike(what + " stays", y, changed);
        }
    }

    private void leastAmidOthers() {
        term("LEAST: the least COLOUR of a THING (0 .. 12, in place of its own) by which a CLOTH has a parts of twelve at least behind n NIGHTS;",
                "each of four amid the other three, which change", () -> {
            LentShades x = Edges.house("cloth 0 0 0;thing 2;thing 5;thing 1;thing 4;touch 0 4 1;touch 0 5 1;touch 0 6 1;touch 0 7 1;");
            int[] colours = {2, 5, 1, 4};
            for (int changed = 0; changed < 4; changed++) {
                for (int t = 0; t < 4; t++) {
                    for (int a = 0; a <= 12; a++) {
                        // The mean of four is a at least.
                        int needed = Math.max(0, 4 * a - (sum(colours) - colours[t]));
                        e.due("least(" + t + ", 0, 1, " + a + ")", x.least(t, 0, 1, a), needed > 12 ? NONE : needed);
                    }
                }
                colours[changed] += 7;
                x.colour(changed, colours[changed]);
            }
        });
    }

    private static int sum(int[] values) {
        int sum = 0;
        for (int v : values) {
            sum += v;
        }
        return sum;
    }

    private void restOfFour() {
        term("REST: SHADES that stay as they are in a NIGHT, if there are just ones such", "a chain of all four: fifths", () -> {
            LentShades x = Edges.house("cloth 0 0 0;cloth 0 0 0;cloth 0 0 0;cloth 0 0 0;thing 12;thing 0;"
                    + "touch 4 0 1;touch 0 1 1;touch 1 2 1;touch 2 3 1;touch 3 5 1;");
            for (int i = 0; i < 4; i++) {
                e.due("rest", x.rest(i), 1);
                e.fraction("rest(" + i + ")", x, 4 - i, 5);
            }
            LentShades y = Edges.house("cloth 0 0 0;cloth 1 3 0;cloth 3 2 0;cloth 1 1 0;thing 12;thing 0;"
                    + "touch 4 0 1;touch 3 1 1;touch 1 2 1;touch 2 0 1;touch 3 5 1;");
            int[] place = {0, 2, 1, 3};
            for (int i = 0; i < 4; i++) {
                e.due("rest", y.rest(i), 1);
                e.fraction("rest(" + i + ") of another chain", y, 4 - place[i], 5);
            }
        });
    }

    private void restOfLongOnes() {
        term("(of CLOTHS that take nothing: what they have now)", "long ones amid great sums: 4 by 5 to the 0 .. 11, colours by 48", () -> {
            for (int slept = 1; slept <= 12; slept++) {
                LentShades x = Edges.house("cloth 2 0 12;cloth 1 3 12;cloth 3 3 0;cloth 3 3 0;thing 0;thing 3;thing 9;thing 7;"
                        + "touch 0 1 1;touch 1 4 1;");
                for (int i = 2; i < 4; i++) {
                    for (int n = 4; n < 8; n++) {
                        x.touch(i, n, 3);
                    }
                }
                for (int k = 0; k < slept; k++) {
                    x.sleep();
                }
                // From here the WHITE one takes nothing: it has what the FAST one had a night ago.
                x.touch(0, 1, 0);
                e.due("rest(0)", x.rest(0), 1);
                e.fraction("rest(0) behind " + slept, x, BigInteger.valueOf(4).pow(slept - 1), BigInteger.valueOf(5).pow(slept - 1));
                e.due("rest(1)", x.rest(1), 1);
                e.fraction("rest(1) behind " + slept, x, 0, 1);
                for (int i = 2; i < 4; i++) {
                    e.due("rest", x.rest(i), 1);
                    e.fraction("rest(" + i + ") behind " + slept, x, 19, 48);
                }
            }
        });
    }

    private void morningJustSo() {
        term("sets of NUMBERS (bits) that give just that (from SHADES now):", "one CLOTH, of each SHADE: each a by b; all THINGS, of each COLOUR", () -> {
            for (int s = 0; s <= 12; s++) {
                for (int b = 1; b <= 99; b++) {
                    LentShades x = Edges.house("cloth 0 0 " + s + ";");
                    LentShades y = Edges.house("thing " + s + ";thing " + s + ";thing " + s + ";thing " + s + ";");
                    for (int a = 0; a <= b; a++) {
                        boolean so = a * 12 == s * b;
                        e.due("morning(" + a + ", " + b + ", -1) of " + s, x.morning(a, b, NONE), so ? 1 : 0);
                        e.due("surely(" + a + ", " + b + ") of " + s, x.surely(a, b), so ? 1 : NONE);
                        e.due("of four of " + s, y.morning(a, b, NONE), so ? 15 : 0);
                    }
                }
            }
        });
        term("sets of NUMBERS (bits) that give just that (from SHADES now):", "of another HOUSE behind twelve NIGHTS", () -> {
            LentShades x = longOne();
            x.read();
            LentShades y = Edges.house("cloth 0 0 7;cloth 1 0 3;thing 5;thing 0;");
            for (int b = 1; b <= 24; b++) {
                for (int a = 0; a <= b && b % 2 == 0; a++) {
                    e.due("morning(" + a + ", " + b + ", -1)", x.morning(a, b, NONE), y.morning(a, b, NONE));
                    e.due("surely(" + a + ", " + b + ")", x.surely(a, b), y.surely(a, b));
                }
            }
            e.due("the cloths", x.morning(5, 12, 0), 3);
            e.due("a thing", x.morning(5, 12, 1), 4 << 2);
        });
    }

    /** Twelve nights of 31 parts, THE FRACTION of twelve more; THE TEXT is another house. */
    private static LentShades longOne() {
        LentShades x = Edges.house("cloth 3 2 12;cloth 3 3 12;cloth 3 1 12;thing 0;thing 0;thing 0;thing 1;"
                + "touch 0 4 3;touch 0 5 3;touch 0 6 3;touch 0 7 3;touch 1 4 3;touch 1 5 3;touch 1 7 2;");
        for (int k = 0; k < 12; k++) {
            x.sleep();
        }
        x.shade(0, 12);
        Edges.type(x, "cloth 0 0 7;cloth 1 0 3;thing 5;thing 0;touch 1 4 3;");
        return x;
    }

    private void shortBehindLong() {
        term("lowest terms, below above 0.", "REST and SHADES of one limb behind the longest", () -> {
            for (int parts = 0; parts <= 12; parts++) {
                LentShades x = longOne();
                e.due("more than one limb", x.sign(1) > 1 && x.sign(2) > 1 ? 1 : 0, 1);
                x.read();
                x.colour(0, parts);
                e.due("rest", x.rest(1), 1);
                e.fraction("rest(1)", x, parts, 12);
                e.shade(x, 1, 1, 3 + 3 * parts, 48);
                LentShades y = longOne();
                y.read();
                y.colour(0, parts);
                e.shade(y, 1, 0, 3, 12);
                e.shade(y, 0, 12, 7, 12);
            }
        });
    }
}
