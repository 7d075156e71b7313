/** Promises 1 to 8: a house. */
final class EdgesOfHouseCalls {
    private static final int BAD = Edges.BAD, NO = Edges.NO, FULL = Edges.FULL;

    private final Edges e;

    private EdgesOfHouseCalls(Edges e) {
        this.e = e;
    }

    static void tell(Edges e) {
        EdgesOfHouseCalls t = new EdgesOfHouseCalls(e);
        t.newObject();
        t.cloth();
        t.thing();
        t.touch();
        t.colour();
        t.type();
        t.clear();
        t.read();
    }

    private void newObject() {
        e.sentence("Promise 1", "As told; no CLOTHS, no THINGS.", "each count, THE FRACTION, digest, each call on nothing", () -> {
            LentShades x = new LentShades();
            for (int what = 0; what <= 5; what++) {
                e.due("count(" + what + ")", x.count(what), 0);
            }
            e.status(x, 0, 0, 0);
            e.fraction("at first", x, 0, 1);
            e.due("digest", x.digest(), Edges.digest(0, 0, 0, 0, 0, 0, 0, 0, 1, 1));
            e.due("colours", x.colours(), 0);
            e.due("chest", x.chest(-1), 1);
            e.due("morning", x.morning(0, 1, -1), 0);
            e.due("lent", x.lent(0), 0);
            e.due("clear", x.clear(), 0);
            e.due("refuse", x.refuse(), 0);
            e.due("read", x.read(), 0);
            e.status(x, 0, 0, 0);
            e.due("from(0)", x.from(0), NO);
            e.due("from(1)", x.from(1), NO);
            e.due("undo", x.undo(), NO);
            e.due("shade", x.shade(0, 0), BAD);
            e.due("rest", x.rest(0), BAD);
            e.due("soRed", x.soRed(0, 0), BAD);
            e.due("moves", x.moves(0, 0, 12, 1, 0), -10);
            e.due("bound", x.bound(0, 0, 12), BAD);
            e.due("borrower", x.borrower(0, 0, 0, 0), BAD);
            e.due("least", x.least(0, 0, 0, 0), BAD);
            e.due("colour", x.colour(0, 0), BAD);
            e.due("touch", x.touch(0, 4, 0), BAD);
            e.status(x, 9, 3, 0);
            LentShades y = new LentShades();
            y.cloth(0, 0, 6);
            e.due("no two share what they have", new LentShades().count(0), 0);
        });
    }

    private void cloth() {
        e.sentence("Promise 2", "A CLOTH: its number.", "0 with none there, 3 with three; no THINGS are counted", () -> {
            LentShades x = new LentShades();
            x.thing(1);
            x.thing(2);
            e.due("the first", x.cloth(0, 0, 0), 0);
            e.due("the second", x.cloth(1, 0, 0), 1);
            e.due("a refused one", x.cloth(1, 0, 13), BAD);
            e.due("the third", x.cloth(2, 0, 0), 2);
            e.due("the fourth", x.cloth(3, 0, 0), 3);
        });
        e.sentence("Promise 2", "BAD", "KIND 0 to 4", () ->
            e.only(0, 4, "cloth(v, 0, 0)", Edges::furnished, (x, v) -> x.cloth(v, 0, 0), BAD));
        e.sentence("Promise 2", "BAD", "HOLD 0 to 3", () ->
            e.only(0, 3, "cloth(0, v, 0)", Edges::furnished, (x, v) -> x.cloth(0, v, 0), BAD));
        e.sentence("Promise 2", "BAD", "SHADE 0 to 12", () ->
            e.only(0, 12, "cloth(0, 0, v)", Edges::furnished, (x, v) -> x.cloth(0, 0, v), BAD));
        e.sentence("Promise 2", "FULL: 4.", "a fourth is taken, a fifth of any kind is not", () -> {
            e.due("the fourth", Edges.furnished().cloth(0, 0, 0), 3);
            for (int kind = 0; kind <= 4; kind++) {
                int k = kind;
                e.refused("a fifth", Edges::full, x -> x.cloth(k, 3, 12), FULL, Edges.FULLS);
            }
            LentShades x = Edges.full();
            x.clear();
            x.read();
            e.due("with none there again", x.cloth(0, 0, 0), 0);
        });
        e.sentence("Promise 2", "(UNDO is of none, then.)", "of six, of none; a refused one leaves them", () -> {
            LentShades x = Edges.house("cloth 1 0 12;thing 0;touch 0 4 1;");
            for (int k = 0; k < 7; k++) {
                x.sleep();
            }
            x.cloth(5, 0, 0);
            e.due("six behind a refused one", x.count(3), 6);
            x.cloth(0, 0, 0);
            e.due("none", x.count(3), 0);
            e.due("undo", x.undo(), NO);
            e.due("the NIGHTS stay", x.count(2), 7);
            e.shade(x, 0, 0, 1, 128);
            x.sleep();
            e.due("one anew", x.undo(), 1);
            e.shade(x, 0, 0, 1, 128);
            e.due("undo", x.undo(), NO);
            LentShades full = Edges.full();
            full.cloth(0, 0, 0);
            e.due("behind a FULL one", full.count(3), 6);
        });
    }

    private void thing() {
        e.sentence("Promise 3", "A THING: its number among THINGS.", "0 with none there, whatever CLOTHS there are; 3 with three", () -> {
            LentShades x = new LentShades();
            x.cloth(0, 0, 0);
            x.cloth(0, 0, 0);
            for (int k = 0; k < 4; k++) {
                e.due("thing", x.thing(k), k);
                e.due("a refused one", x.thing(13), BAD);
            }
        });
        e.sentence("Promise 3", "BAD", "COLOUR 0 to 12", () ->
            e.only(0, 12, "thing(v)", Edges::furnished, LentShades::thing, BAD));
        e.sentence("Promise 3", "FULL: 4.", "a fourth is taken, a fifth is not; UNDO stays", () -> {
            LentShades x = Edges.furnished();
            e.due("the fourth", x.thing(0), 3);
            e.due("UNDO stays", x.count(3), 3);
            e.refused("a fifth", Edges::full, y -> y.thing(0), FULL, Edges.FULLS);
            e.refused("a fifth", Edges::full, y -> y.thing(12), FULL, Edges.FULLS);
        });
    }

    /** So many cloths and things, all of shade 0. */
    private static LentShades some(int cloths, int things) {
        LentShades x = new LentShades();
        for (int k = 0; k < cloths; k++) {
            x.cloth(0, 0, 0);
        }
        for (int k = 0; k < things; k++) {
            x.thing(0);
        }
        return x;
    }

    private static boolean there(int n, int cloths, int things) {
        return n >= 0 && n < cloths || n >= 4 && n < 4 + things;
    }

    private void touch() {
        e.sentence("Promise 4", "HOURS of two NUMBERS: what they were.", "0, 3, put to what they are", () -> {
            LentShades x = some(2, 1);
            int[] puts = {3, 3, 0, 0, 1, 2, 3, 0};
            int was = 0;
            for (int h : puts) {
                e.due("cloths", x.touch(1, 0, h), was);
                e.due("with a thing", x.touch(4, 1, h), was);
                e.due("another pair stays", x.touch(0, 4, 0), 0);
                was = h;
            }
        });
        e.sentence("Promise 4", "BAD", "HOURS 0 to 3", () -> {
            e.only(0, 3, "touch(0, 1, v)", Edges::furnished, (x, v) -> x.touch(0, 1, v), BAD);
            e.only(0, 3, "touch(0, 4, v)", Edges::furnished, (x, v) -> x.touch(0, 4, v), BAD);
            e.only(0, 3, "touch(4, 0, v)", Edges::furnished, (x, v) -> x.touch(4, 0, v), BAD);
        });
        e.sentence("Promise 4", "BAD", "NUMBERS that are there: none to four CLOTHS, none to four THINGS, all pairs", () -> {
            for (int cloths = 0; cloths <= 4; cloths++) {
                for (int things = 0; things <= 4; things++) {
                    for (int a = -1; a <= 8; a++) {
                        for (int b = -1; b <= 8; b++) {
                            boolean right = there(a, cloths, things) && there(b, cloths, things) && a != b && (a < 4 || b < 4);
                            LentShades x = some(cloths, things);
                            e.due("touch(" + a + ", " + b + ", 1)", x.touch(a, b, 1), right ? 0 : BAD);
                            e.status(x, right ? 0 : 1, 0, 0);
                        }
                    }
                }
            }
            int[] wrong = {-1, 3, 7, 8, 12, 256, -4, Integer.MIN_VALUE, Integer.MAX_VALUE};
            for (int n : wrong) {
                e.refused("touch(" + n + ", 0, 1)", Edges::furnished, x -> x.touch(n, 0, 1), BAD, Edges.BADS);
                e.refused("touch(0, " + n + ", 1)", Edges::furnished, x -> x.touch(0, n, 1), BAD, Edges.BADS);
            }
        });
        e.sentence("Promise 4", "BAD: alike, both THINGS, too.", "each alike one, each two THINGS", () -> {
            for (int a = 0; a < 8; a++) {
                int n = a;
                e.refused("touch(" + n + ", " + n + ", 0)", Edges::full, x -> x.touch(n, n, 0), BAD, Edges.BADS);
            }
            for (int a = 4; a < 8; a++) {
                for (int b = 4; b < 8; b++) {
                    int n = a;
                    int m = b;
                    e.refused("touch(" + n + ", " + m + ", 2)", Edges::full, x -> x.touch(n, m, 2), BAD, Edges.BADS);
                }
            }
        });
    }

    private void colour() {
        e.sentence("Promise 5", "COLOUR of a THING (0 on): what it was.", "0, 12, the first, the last", () -> {
            LentShades x = some(1, 4);
            for (int t = 0; t < 4; t++) {
                e.due("at first", x.colour(t, 12), 0);
                e.due("put to what it is", x.colour(t, 12), 12);
                e.due("back", x.colour(t, t), 12);
            }
            for (int t = 0; t < 4; t++) {
                e.due("the others stay", x.colour(t, 0), t);
            }
        });
        e.sentence("Promise 5", "BAD.", "THINGS with none to four there", () -> {
            for (int things = 0; things <= 4; things++) {
                int so = things;
                e.only(0, things - 1, "colour(v, 5)", () -> some(3, so), (x, v) -> x.colour(v, 5), BAD);
            }
            e.only(0, 2, "colour(v, 5)", Edges::furnished, (x, v) -> x.colour(v, 5), BAD);
            e.only(0, 3, "colour(v, 5)", Edges::full, (x, v) -> x.colour(v, 5), BAD);
        });
        e.sentence("Promise 5", "BAD.", "COLOUR 0 to 12", () ->
            e.only(0, 12, "colour(2, v)", Edges::furnished, (x, v) -> x.colour(2, v), BAD));
    }

    private void type() {
        e.sentence("Promise 6", "The lowest n (1 .. 8) bytes of v, the highest of them first, come to THE TEXT: how many it has.",
                "n of 1, 8; v of a sign, of all bits; only the lowest count", () -> {
            long thing = 0x7468696E6720373BL; // "thing 7;"
            LentShades x = new LentShades();
            e.due("eight", x.type(thing, 8), 8);
            e.due("read", x.read(), 1);
            e.due("COLOUR", x.colour(0, 0), 7);
            x.clear();
            for (int n = 1; n <= 8; n++) {
                // The bytes above the lowest n are all other ones.
                LentShades y = new LentShades();
                e.due("the first " + (8 - n), n == 8 ? 0 : y.type(thing >> 8 * n, 8 - n), 8 - n);
                long dirty = n == 8 ? thing : -1L << 8 * n | thing & (1L << 8 * n) - 1;
                e.due("the lowest " + n, y.type(dirty, n), 8);
                e.due("read", y.read(), 1);
                e.due("COLOUR", y.colour(0, 0), 7);
            }
            long[] odd = {0, -1, Long.MIN_VALUE, Long.MAX_VALUE, 0xffffffff00000000L};
            for (long v : odd) {
                LentShades y = new LentShades();
                e.due("v " + v, y.type(v, 8), 8);
                e.due("read", y.read(), -10);
            }
            // A highest byte of 32 or more than 127 in it is no sign to go by.
            LentShades z = Edges.text("");
            e.due("seven blanks ahead", z.type(0x20202020202020L, 7), 7);
            e.due("byte 255", z.type(255, 1), 8);
            e.due("read", z.read(), -17);
        });
        e.sentence("Promise 6", "BAD", "n of 1 to 8, with THE TEXT empty, half full, full", () -> {
            e.only(1, 8, "type(v, n)", Edges::empty, (x, n) -> x.type(0x3131313131313131L, n), BAD);
            e.only(1, 8, "type(v, n)", Edges::furnished, (x, n) -> x.type(0x3131313131313131L, n), BAD);
            for (int n : new int[] {0, 9, -1, Integer.MIN_VALUE, Integer.MAX_VALUE, 264, -8}) {
                e.refused("type(v, " + n + ")", Edges::full, x -> x.type(' ', n), BAD, Edges.BADS);
            }
        });
        e.sentence("Promise 6", "BAD; FULL.", "200 bytes are taken, 201 are not, none of them", () -> {
            for (int n = 1; n <= 8; n++) {
                for (int had = 191; had <= 200; had++) {
                    int length = had;
                    int bytes = n;
                    Edges.State state = () -> Edges.text("thing 3;" + " ".repeat(length - 8));
                    if (length + n <= 200) {
                        e.due(n + " bytes to " + length, state.make().type(0x2020202020202020L, n), length + n);
                    } else {
                        e.refused(n + " bytes to " + length, state, x -> x.type(0x2020202020202020L, bytes), FULL, Edges.FULLS);
                    }
                }
            }
            e.refused("a byte", Edges::full, x -> x.type(0, 1), FULL, Edges.FULLS);
            e.refused("eight bytes", Edges::full, x -> x.type(-1, 8), FULL, Edges.FULLS);
        });
    }

    private void clear() {
        e.sentence("Promise 7", "THE TEXT is empty: how many it had.", "of none, one, 200; it may be filled anew; all else stays", () -> {
            for (int had : new int[] {0, 1, 8, 199, 200}) {
                LentShades x = Edges.text("x".repeat(had));
                e.due("clear", x.clear(), had);
                e.due("count(4)", x.count(4), 0);
                e.due("again", x.clear(), 0);
                e.due("read", x.read(), 0);
                Edges.type(x, " ".repeat(192) + "thing 8;");
                e.due("filled anew", x.count(4), 200);
                e.due("read", x.read(), 1);
                e.status(x, 0, 0, 0);
            }
            LentShades x = Edges.furnished();
            LentShades y = Edges.furnished();
            String text = "cloth 1 1 4;thing 3;cloth 0 0 8;touch 0 1 2;touch 4 0 1;";
            e.due("clear", x.clear(), text.length());
            Edges.type(x, text);
            e.alike("behind clear", x, y);
        });
    }

    private void read() {
        e.sentence("Promise 8", "THE HOUSE is read: how many ITEMS.", "0, 1, the most that 200 bytes hold; twice; the TEXT stays", () -> {
            e.due("none", Edges.text("").read(), 0);
            e.due("one", Edges.text("thing1;").read(), 1);
            StringBuilder most = new StringBuilder("cloth0 0 0;thing1;thing1;thing1;thing1;");
            for (int k = 0; k < 14; k++) {
                most.append("touch0 4 3;");
            }
            LentShades x = Edges.text(most.toString());
            e.due("count(4)", x.count(4), 193);
            for (int k = 0; k < 3; k++) {
                e.due("nineteen", x.read(), 19);
                e.due("CLOTHS", x.count(0), 1);
                e.due("THINGS", x.count(1), 4);
                e.due("count(4)", x.count(4), 193);
            }
            Edges.type(x, "thing1;");
            e.due("count(4)", x.count(4), 200);
            e.due("a fifth thing", x.read(), -10 - 193);
            e.status(x, 0, 0, 0);
        });
        e.sentence("Promise 8", "-10 less the FAULT: all stays.", "FAULTS at 0, 1, 199, 200; no STATUS either", () -> {
            String[] texts = {"x", " x", " ".repeat(199) + "x", " ".repeat(195) + "thing", "cloth 0 0 0;cloth 2 2 2;thing 5;touch 0 4 4;"};
            int[] faults = {0, 1, 199, 200, 42};
            for (int k = 0; k < texts.length; k++) {
                String text = texts[k];
                for (Edges.State state : new Edges.State[] {Edges::empty, Edges::furnished, Edges::full}) {
                    e.quiet("read of '" + text + "'", () -> {
                        LentShades x = state.make();
                        x.clear();
                        Edges.type(x, text);
                        return x;
                    }, LentShades::read, -10 - faults[k]);
                }
            }
        });
    }
}
