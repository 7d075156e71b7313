/** Promises 9 to 23: nights. */
final class EdgesOfNightCalls {
    private static final int NONE = Edges.NONE, BAD = Edges.BAD, NO = Edges.NO, FULL = Edges.FULL;
    private static final int[] FAR = {-1, 13, 256, -256, Integer.MIN_VALUE, Integer.MAX_VALUE};

    private final Edges e;

    private EdgesOfNightCalls(Edges e) {
        this.e = e;
    }

    static void tell(Edges e) {
        EdgesOfNightCalls t = new EdgesOfNightCalls(e);
        t.shade();
        t.sleep();
        t.undo();
        t.soRed();
        t.rest();
        t.moves();
        t.movesRefused();
        t.bound();
        t.chest();
        t.morning();
        t.surely();
        t.borrower();
        t.refuse();
        t.lent();
        t.colours();
        t.least();
    }

    /** So many cloths and things, all of shade 6. */
    private static LentShades some(int cloths, int things) {
        LentShades x = new LentShades();
        for (int k = 0; k < cloths; k++) {
            x.cloth(0, 0, 6);
        }
        for (int k = 0; k < things; k++) {
            x.thing(6);
        }
        return x;
    }

    /** Of a CLOTH in a call: those that are there, with none to four there, more things or fewer. */
    private void onlyCloths(String call, Edges.CallOf c, long bad) {
        for (int cloths = 0; cloths <= 4; cloths++) {
            int so = cloths;
            e.only(0, cloths - 1, call + " of " + cloths, () -> some(so, 4 - so), c, bad);
        }
        e.only(0, 2, call, Edges::furnished, c, bad);
        e.only(0, 3, call, Edges::full, c, bad);
    }

    private void shade() {
        e.sentence("Promise 9", "SHADE of a CLOTH behind n NIGHTS is THE FRACTION: 1.", "0, 12; nothing else is changed, no NIGHT is slept", () -> {
            LentShades x = Edges.house("cloth 1 0 12;cloth 1 0 6;thing 0;touch 0 4 1;touch 1 4 1;");
            e.shade(x, 0, 0, 1, 1);
            e.shade(x, 0, 12, 1, 4096);
            e.shade(x, 1, 12, 1, 8192);
            e.shade(x, 1, 0, 1, 2);
            e.due("no NIGHT", x.count(2), 0);
            for (int n : new int[] {0, 1, 11, 12}) {
                e.changesTheFractionAlone("shade(1, " + n + ")", Edges::furnished, y -> y.shade(1, n));
                e.changesTheFractionAlone("shade(3, " + n + ")", Edges::full, y -> y.shade(3, n));
            }
        });
        e.sentence("Promise 9", "BAD.", "CLOTHS with none to four there", () ->
            onlyCloths("shade(v, 1)", (x, v) -> x.shade(v, 1), BAD));
        e.sentence("Promise 9", "BAD.", "n 0 to 12", () -> {
            e.only(0, 12, "shade(0, v)", Edges::furnished, (x, v) -> x.shade(0, v), BAD);
            e.only(0, 12, "shade(3, v)", Edges::full, (x, v) -> x.shade(3, v), BAD);
            e.refused("shade(0, 0) of none", Edges::empty, x -> x.shade(0, 0), BAD, Edges.BADS);
        });
    }

    private void sleep() {
        e.sentence("Promise 10", "A NIGHT is slept: how many there were.", "the first, the twelfth; of no CLOTHS, too; THE FRACTION stays", () -> {
            LentShades x = Edges.house("cloth 1 0 12;thing 0;touch 0 4 1;");
            LentShades none = new LentShades();
            x.shade(0, 0);
            for (int k = 1; k <= 12; k++) {
                e.due("sleep", x.sleep(), k);
                e.due("sleep of none", none.sleep(), k);
                e.due("count(2)", x.count(2), k);
                e.fraction("as it was", x, 1, 1);
            }
            e.shade(x, 0, 0, 1, 4096);
            LentShades y = Edges.furnished();
            e.due("the fourth", y.sleep(), 4);
            e.due("undo", y.undo(), 1);
            e.alike("slept and undone", y, Edges.furnished());
        });
        e.sentence("Promise 10", "NO: 12 were.", "the eleventh is taken, the twelfth is, a thirteenth is not; of no CLOTHS, too", () -> {
            Edges.State twelve = () -> {
                LentShades x = new LentShades();
                for (int k = 0; k < 12; k++) {
                    x.sleep();
                }
                return x;
            };
            e.refused("sleep of none", twelve, LentShades::sleep, NO, Edges.NOES);
            e.refused("sleep", Edges::full, LentShades::sleep, NO, Edges.NOES);
            LentShades x = Edges.full();
            x.undo();
            x.undo();
            e.due("the eleventh anew", x.sleep(), 11);
            e.due("the twelfth anew", x.sleep(), 12);
            e.due("a thirteenth", x.sleep(), NO);
            e.due("back to the ninth", x.from(0), 1);
            e.due("the tenth", x.sleep(), 10);
        });
    }

    private void undo() {
        e.sentence("Promise 11", "UNDO: 1.", "the last one, the first one; HOURS, COLOURS, BORROWERS stay", () -> {
            LentShades x = Edges.house("cloth 1 0 12;cloth 1 0 0;thing 0;touch 0 4 1;");
            x.sleep();
            x.touch(0, 4, 2);
            x.touch(1, 4, 3);
            x.colour(0, 12);
            x.bound(1, 2, 3);
            x.borrower(1, 0, 1, 2);
            x.thing(4);
            x.shade(1, 1);
            x.sleep();
            x.sleep();
            for (int left = 2; left >= 0; left--) {
                e.due("undo", x.undo(), 1);
                e.due("count(3)", x.count(3), left);
                e.due("count(2)", x.count(2), left);
                e.fraction("THE FRACTION stays", x, 3, 4);
            }
            e.due("HOURS", x.touch(0, 4, 1), 2);
            e.due("HOURS", x.touch(1, 4, 1), 3);
            e.due("COLOUR", x.colour(0, 0), 12);
            e.due("THINGS", x.count(1), 2);
            e.due("BORROWERS", x.count(5), 1);
            e.shade(x, 0, 0, 1, 1);
            e.shade(x, 1, 0, 0, 1);
            e.status(x, 0, 0, 0);
        });
        e.sentence("Promise 11", "NO: none may be.", "none slept; all undone; behind a CLOTH, behind a HOUSE read, from an IMAGE without", () -> {
            e.refused("undo of a new one", Edges::empty, LentShades::undo, NO, Edges.NOES);
            Edges.State halves = () -> Edges.house("cloth 1 0 12;thing 0;touch 0 4 1;");
            e.refused("undo, none slept", halves, LentShades::undo, NO, Edges.NOES);
            for (int slept = 1; slept <= 12; slept++) {
                int k = slept;
                e.refused("undo of all of " + slept, () -> {
                    LentShades x = halves.make();
                    for (int i = 0; i < k; i++) {
                        x.sleep();
                    }
                    for (int i = 0; i < Math.min(6, k); i++) {
                        e.due("undo", x.undo(), 1);
                    }
                    return x;
                }, LentShades::undo, NO, Edges.NOES);
            }
            e.refused("undo behind a CLOTH", () -> {
                LentShades x = Edges.furnished();
                x.cloth(0, 0, 0);
                return x;
            }, LentShades::undo, NO, Edges.NOES);
            e.refused("undo behind a HOUSE read", () -> {
                LentShades x = Edges.full();
                x.read();
                return x;
            }, LentShades::undo, NO, Edges.NOES);
            e.refused("undo from an IMAGE without", () -> {
                LentShades x = Edges.full();
                x.from(1);
                return x;
            }, LentShades::undo, NO, Edges.NOES);
        });
    }

    private void soRed() {
        e.sentence("Promise 12", "SO RED: the first NIGHT.", "0, 1, 12; nothing is changed", () -> {
            LentShades x = Edges.house("cloth 1 3 0;cloth 0 0 12;thing 12;touch 0 4 1;");
            e.due("0", x.soRed(0, 0), 0);
            e.due("0", x.soRed(1, 12), 0);
            e.due("1", x.soRed(0, 1), 1);
            e.due("2", x.soRed(0, 3), 2);
            e.due("12", x.soRed(0, 11), 12);
            for (int a = 0; a <= 12; a++) {
                int parts = a;
                e.asksAlone("soRed(0, " + a + ")", Edges::furnished, y -> y.soRed(0, parts));
                e.asksAlone("soRed(2, " + a + ")", Edges::full, y -> y.soRed(2, parts));
            }
        });
        e.sentence("Promise 12", "NONE.", "never so red, or behind a thirteenth NIGHT alone; it is no refusal", () -> {
            e.quiet("never", () -> some(1, 4), x -> x.soRed(0, 7), NONE);
            Edges.State thirteen = () -> Edges.house("cloth 1 1 4;cloth 1 1 6;thing 9;touch 0 4 1;touch 0 1 2;");
            e.quiet("behind a thirteenth", thirteen, x -> x.soRed(0, 8), NONE);
        });
        e.sentence("Promise 12", "BAD (a 0 .. 12).", "CLOTHS with none to four there", () ->
            onlyCloths("soRed(v, 6)", (x, v) -> x.soRed(v, 6), BAD));
        e.sentence("Promise 12", "BAD (a 0 .. 12).", "a 0 to 12", () -> {
            e.only(0, 12, "soRed(0, v)", Edges::furnished, (x, v) -> x.soRed(0, v), BAD);
            e.only(0, 12, "soRed(3, v)", Edges::full, (x, v) -> x.soRed(3, v), BAD);
        });
    }

    private void rest() {
        e.sentence("Promise 13", "REST of a CLOTH is THE FRACTION: 1.", "0, 1; nothing else is changed", () -> {
            LentShades x = Edges.house("cloth 1 0 5;cloth 0 0 5;cloth 2 0 12;thing 0;thing 12;touch 0 4 3;touch 1 5 1;");
            e.due("rest", x.rest(1), 1);
            e.fraction("rest(1)", x, 1, 1);
            e.due("rest", x.rest(0), 1);
            e.fraction("rest(0)", x, 0, 1);
            e.due("rest", x.rest(2), 1);
            e.fraction("rest(2)", x, 1, 1);
            for (int i = 0; i < 3; i++) {
                int cloth = i;
                e.due("rest(" + i + ")", Edges.furnished().rest(i), 1);
                e.changesTheFractionAlone("rest(" + i + ")", Edges::furnished, y -> y.rest(cloth));
            }
        });
        e.sentence("Promise 13", "BAD;", "CLOTHS with none to four there, with a VAIN, too", () ->
            onlyCloths("rest(v)", LentShades::rest, BAD));
        e.sentence("Promise 13", "NO: none.", "of each CLOTH of a HOUSE with a VAIN, with a ring; it changes nothing", () -> {
            for (int i = 0; i < 4; i++) {
                int cloth = i;
                e.refused("rest with a VAIN", Edges::full, x -> x.rest(cloth), NO, Edges.NOES);
                e.refused("rest of a ring", () -> {
                    LentShades x = Edges.house("cloth 0 0 1;cloth 1 0 2;cloth 3 0 3;cloth 2 0 4;thing 5;"
                            + "touch 0 1 1;touch 1 2 2;touch 3 4 1;touch 0 3 1;");
                    x.shade(2, 1);
                    return x;
                }, x -> x.rest(cloth), NO, Edges.NOES);
            }
        });
    }

    private void moves() {
        e.sentence("Promise 14", "MOVES: how many (0), the first one (1), the second one (2): 1000 times the lesser NUMBER, 100 times the other one, 0 or 3;",
                "0, 1, 2 MOVES; from pair 0, 1 to 3, 7; nothing is changed", () -> {
            String cloths = "cloth 0 0 6;cloth 0 0 6;cloth 0 0 6;cloth 0 0 6;";
            for (int i = 0; i < 4; i++) {
                for (int n = i + 1; n < 8; n++) {
                    LentShades x = some(4, 4);
                    if (n >= 4) {
                        x.colour(n - 4, 12);
                        e.due("put to 3", x.moves(i, 7, 12, 1, 1), 1000 * i + 100 * n + 3);
                        x.touch(i, n, 1);
                        e.due("put to 0", x.moves(i, 6, 6, 1, 1), 1000 * i + 100 * n);
                    } else {
                        x = Edges.house("cloth 0 0 6;cloth 0 0 6;cloth 0 0 6;cloth 0 0 6;thing 0;thing 6;thing 6;thing 6;touch " + n + " 4 1;");
                        x.touch(i, n, 1);
                        x.sleep();
                        e.due("put to 0", x.moves(i, 6, 6, 1, 1), 1000 * i + 100 * n);
                        x.touch(n, i, 0);
                        e.due("put to 3", x.moves(i, 0, 5, 1, 1), i == 0 && n > 1 ? 100 * n + 3 : 1000 * i + 100 * n + 3);
                    }
                    e.due("how many", x.moves(i, 0, 12, 1, 0), 0);
                }
            }
            LentShades x = Edges.house(cloths + "thing 0;thing 0;thing 0;thing 12;touch 3 4 1;");
            e.due("how many", x.moves(3, 12, 12, 1, 0), 2);
            e.due("the first one", x.moves(3, 12, 12, 1, 1), 3400);
            e.due("the second one", x.moves(3, 12, 12, 1, 2), 3703);
            for (int k = 0; k < 3; k++) {
                int what = k;
                for (int n = 1; n <= 3; n++) {
                    int nights = n;
                    e.asksAlone("moves(1, 9, 11, " + n + ", " + what + ")", Edges::furnished, y -> y.moves(1, 9, 11, nights, what));
                    e.asksAlone("moves(0, 3, 4, " + n + ", " + what + ")", Edges::full, y -> y.moves(0, 3, 4, nights, what));
                }
            }
        });
        e.sentence("Promise 14", "-5: there are not so many.", "a first of none, a second of one, of none; the first of one is there", () -> {
            Edges.State one = () -> Edges.house("cloth 0 0 6;thing 12;");
            e.quiet("the first of none", one, x -> x.moves(0, 6, 6, 1, 1), -5);
            e.quiet("the second of none", one, x -> x.moves(0, 6, 6, 1, 2), -5);
            e.quiet("the first of one", one, x -> x.moves(0, 7, 12, 1, 1), 403);
            e.quiet("the second of one", one, x -> x.moves(0, 7, 12, 1, 2), -5);
        });
        e.sentence("Promise 14", "NONE: not by two.", "three would do; no pair is there; whichever is asked for", () -> {
            Edges.State three = () -> Edges.house("cloth 0 0 6;thing 0;thing 0;thing 12;touch 0 4 1;touch 0 5 1;");
            for (int k = 0; k < 3; k++) {
                int what = k;
                e.quiet("three would do, " + k, three, x -> x.moves(0, 12, 12, 1, what), NONE);
                e.quiet("no pair, " + k, () -> some(1, 0), x -> x.moves(0, 0, 5, 3, what), NONE);
            }
            e.quiet("two do", three, x -> x.moves(0, 6, 6, 1, 0), 2);
            e.quiet("the first one", three, x -> x.moves(0, 6, 6, 1, 1), 400);
            e.quiet("the second one", three, x -> x.moves(0, 6, 6, 1, 2), 500);
        });
    }

    private void movesRefused() {
        e.sentence("Promise 14", "BAD: -10", "CLOTHS with none to four there", () ->
            onlyCloths("moves(v, 6, 6, 1, 0)", (x, v) -> x.moves(v, 6, 6, 1, 0), -10));
        e.sentence("Promise 14", "BAD: -10 (0 <= a <= b <= 12).", "all a and b about 0 and 12", () -> {
            for (int a = -2; a <= 14; a++) {
                LentShades x = some(1, 0);
                int bads = 0;
                for (int b = -2; b <= 14; b++) {
                    boolean right = 0 <= a && a <= b && b <= 12;
                    int due = a <= 6 && 6 <= b ? 0 : NONE;
                    e.due("moves(0, " + a + ", " + b + ", 1, 0)", x.moves(0, a, b, 1, 0), right ? due : -10);
                    bads += right ? 0 : 1;
                    e.due("status(0)", x.status(0), bads);
                }
            }
            e.only(0, 7, "moves(1, v, 7, 1, 0)", Edges::furnished, (x, v) -> x.moves(1, v, 7, 1, 0), -10);
            e.only(5, 12, "moves(1, 5, v, 1, 0)", Edges::furnished, (x, v) -> x.moves(1, 5, v, 1, 0), -10);
            e.only(0, 12, "moves(0, v, 12, 1, 0)", Edges::full, (x, v) -> x.moves(0, v, 12, 1, 0), -10);
            e.only(0, 12, "moves(0, 0, v, 1, 0)", Edges::full, (x, v) -> x.moves(0, 0, v, 1, 0), -10);
        });
        e.sentence("Promise 14", "BAD: -10", "n 1 to 3, as MOVES are told", () -> {
            e.only(1, 3, "moves(1, 0, 12, v, 0)", Edges::furnished, (x, v) -> x.moves(1, 0, 12, v, 0), -10);
            e.only(1, 3, "moves(1, 0, 12, v, 0)", Edges::full, (x, v) -> x.moves(1, 0, 12, v, 0), -10);
        });
        e.sentence("Promise 14", "BAD: -10", "what 0 to 2", () -> {
            e.only(0, 2, "moves(1, 0, 12, 1, v)", Edges::furnished, (x, v) -> x.moves(1, 0, 12, 1, v), -10);
            e.only(0, 2, "moves(1, 9, 11, 1, v)", Edges::full, (x, v) -> x.moves(1, 9, 11, 1, v), -10);
            // It is refused even where there are none.
            e.only(0, 2, "moves(0, 0, 5, 1, v)", () -> some(1, 0), (x, v) -> x.moves(0, 0, 5, 1, v), -10);
        });
    }

    private void bound() {
        e.sentence("Promise 15", "LEAST, MOST of a CLOTH in the CHEST: 1.", "0 and 0, 12 and 12, of the first CLOTH, of the last", () -> {
            LentShades x = some(4, 0);
            for (int i = 0; i < 4; i++) {
                e.due("orders", x.chest(NONE), 24);
                e.due("bound", x.bound(i, 0, 5), 1);
                e.due("6 is above MOST", x.chest(NONE), 0);
                e.due("bound", x.bound(i, 7, 12), 1);
                e.due("6 is below LEAST", x.chest(NONE), 0);
                e.due("bound", x.bound(i, 6, 6), 1);
                e.due("just so", x.chest(NONE), 24);
                e.due("bound", x.bound(i, 0, 0), 1);
                e.due("bound", x.bound(i, 12, 12), 1);
                e.due("bound", x.bound(i, i, 12 - i), 1);
            }
            e.status(x, 0, 0, 0);
            e.due("digest", x.digest(), Edges.digest(4, 0, 0, 0, 0, 0, 0, 0, 0, 12, 0, 0, 0, 0, 0, 0, 0, 0,
                    0, 0, 1, 11, 0, 0, 0, 0, 0, 0, 0, 0, 0, 0, 2, 10, 0, 0, 0, 0, 0, 0, 0, 0,
                    0, 0, 3, 9, 0, 0, 0, 0, 0, 0, 0, 0, 0, 0, 1, 1));
        });
        e.sentence("Promise 15", "BAD", "CLOTHS with none to four there", () ->
            onlyCloths("bound(v, 2, 9)", (x, v) -> x.bound(v, 2, 9), BAD));
        e.sentence("Promise 15", "BAD (0 <= least <= most <= 12).", "all LEAST and MOST about 0 and 12", () -> {
            for (int least = -2; least <= 14; least++) {
                LentShades x = some(1, 0);
                int bads = 0;
                for (int most = -2; most <= 14; most++) {
                    boolean right = 0 <= least && least <= most && most <= 12;
                    e.due("bound(0, " + least + ", " + most + ")", x.bound(0, least, most), right ? 1 : BAD);
                    bads += right ? 0 : 1;
                    e.due("status(0)", x.status(0), bads);
                }
            }
            e.only(0, 7, "bound(1, v, 7)", Edges::furnished, (x, v) -> x.bound(1, v, 7), BAD);
            e.only(5, 12, "bound(1, 5, v)", Edges::furnished, (x, v) -> x.bound(1, 5, v), BAD);
            e.only(0, 12, "bound(3, v, 12)", Edges::full, (x, v) -> x.bound(3, v, 12), BAD);
            e.only(0, 12, "bound(3, 0, v)", Edges::full, (x, v) -> x.bound(3, 0, v), BAD);
        });
    }

    private void chest() {
        e.sentence("Promise 16", "CHEST: how many orders (i = NONE), the CLOTH that lies as the i-th in the first of them.",
                "none to four CLOTHS, the first, the last; nothing is changed", () -> {
            int[] orders = {1, 1, 2, 6, 24};
            for (int cloths = 0; cloths <= 4; cloths++) {
                int so = cloths;
                e.quiet("chest(NONE)", () -> some(so, 4 - so), x -> x.chest(NONE), orders[cloths]);
                for (int i = 0; i < cloths; i++) {
                    int place = i;
                    e.quiet("chest(" + i + ")", () -> some(so, so), x -> x.chest(place), i);
                }
            }
            // The greatest one of all: 3 ahead of 2, 1, 0 lies so only if 0 and 3 are at the ends, 2 by 3.
            LentShades x = Edges.house("cloth 0 0 0;cloth 0 0 3;cloth 0 0 6;cloth 0 0 12;");
            x.bound(0, 6, 6);
            x.bound(3, 3, 3);
            int[] first = {0, 2, 1, 3};
            for (int i = 0; i < 4; i++) {
                e.due("chest(" + i + ")", x.chest(i), first[i]);
            }
            for (int i = -1; i < 4; i++) {
                int place = i;
                e.asksAlone("chest(" + i + ")", Edges::furnished, y -> y.chest(place));
                e.asksAlone("chest(" + i + ")", Edges::full, y -> y.chest(place));
            }
        });
        e.sentence("Promise 16", "-5: not so many CLOTHS, no order.", "i as many as there are, far more; no order: 0, each i -5", () -> {
            for (int cloths = 0; cloths <= 4; cloths++) {
                int so = cloths;
                for (int i : new int[] {cloths, cloths + 1, 4, 5, 255, 65536, Integer.MAX_VALUE}) {
                    e.quiet("chest(" + i + ")", () -> some(so, 4), x -> x.chest(i), -5);
                }
            }
            Edges.State none = () -> {
                LentShades x = some(4, 0);
                x.bound(2, 0, 5);
                return x;
            };
            e.quiet("chest(NONE)", none, x -> x.chest(NONE), 0);
            for (int i : new int[] {0, 1, 2, 3, 4, Integer.MAX_VALUE}) {
                e.quiet("chest(" + i + ")", none, x -> x.chest(i), -5);
            }
        });
        e.sentence("Promise 16", "BAD: -10.", "i below NONE", () -> {
            for (Edges.State state : new Edges.State[] {Edges::empty, Edges::furnished, Edges::full}) {
                for (int i : new int[] {-2, -3, -5, -257, Integer.MIN_VALUE}) {
                    e.refused("chest(" + i + ")", state, x -> x.chest(i), -10, Edges.BADS);
                }
                e.due("NONE is none such", state.make().chest(NONE) >= 0 ? 1 : 0, 1);
            }
        });
    }

    private void morning() {
        e.sentence("Promise 17", "MORNING: how many sets (i = NONE), the i-th.", "none, one, all 255; the first, the last; nothing is changed", () -> {
            e.quiet("none", Edges::empty, x -> x.morning(1, 2, NONE), 0);
            e.quiet("none", () -> some(4, 4), x -> x.morning(49, 99, NONE), 0);
            e.quiet("all", () -> some(4, 4), x -> x.morning(1, 2, NONE), 255);
            e.quiet("the first", () -> some(4, 4), x -> x.morning(1, 2, 0), 1);
            e.quiet("the last", () -> some(4, 4), x -> x.morning(1, 2, 254), 255);
            e.quiet("a THING alone", () -> some(0, 4), x -> x.morning(49, 98, 0), 16);
            e.quiet("THINGS alone", () -> some(0, 4), x -> x.morning(49, 98, 14), 240);
            for (int i = -1; i < 3; i++) {
                int place = i;
                e.asksAlone("morning(5, 12, " + i + ")", Edges::furnished, x -> x.morning(5, 12, place));
                e.asksAlone("morning(1, 1, " + i + ")", Edges::full, x -> x.morning(1, 1, place));
            }
        });
        e.sentence("Promise 17", "-5: not so many.", "i as many as there are, far more", () -> {
            for (int i : new int[] {0, 1, 255, Integer.MAX_VALUE}) {
                e.quiet("of none", Edges::empty, x -> x.morning(0, 1, i), -5);
                e.quiet("of no set", () -> some(4, 4), x -> x.morning(1, 1, i), -5);
            }
            for (int i : new int[] {1, 2, 256, Integer.MAX_VALUE}) {
                e.quiet("of one", () -> some(1, 0), x -> x.morning(1, 2, i), -5);
            }
            for (int i : new int[] {255, 256, Integer.MAX_VALUE}) {
                e.quiet("of 255", () -> some(4, 4), x -> x.morning(1, 2, i), -5);
            }
        });
        e.sentence("Promise 17", "BAD: -10: a below 0, above b, b not 1 .. 99, too.", "all a and b about 0 and 99; i below NONE", () -> {
            for (int b = -2; b <= 101; b++) {
                LentShades x = Edges.house("thing 0;");
                int bads = 0;
                for (int a = -2; a <= 102; a++) {
                    boolean right = 0 <= a && a <= b && 1 <= b && b <= 99;
                    e.due("morning(" + a + ", " + b + ", NONE)", x.morning(a, b, NONE), !right ? -10 : a == 0 ? 1 : 0);
                    bads += right ? 0 : 1;
                }
                e.due("status(0)", x.status(0), bads);
            }
            e.only(1, 99, "morning(0, v, NONE)", () -> some(1, 1), (x, v) -> x.morning(0, v, NONE), -10);
            e.only(7, 99, "morning(7, v, NONE)", Edges::furnished, (x, v) -> x.morning(7, v, NONE), -10);
            e.only(0, 99, "morning(v, 99, NONE)", Edges::furnished, (x, v) -> x.morning(v, 99, NONE), -10);
            e.only(0, 1, "morning(v, 1, NONE)", Edges::full, (x, v) -> x.morning(v, 1, NONE), -10);
            for (Edges.State state : new Edges.State[] {Edges::empty, Edges::furnished, Edges::full}) {
                for (int i : new int[] {-2, -3, -257, Integer.MIN_VALUE}) {
                    e.refused("morning(1, 2, " + i + ")", state, x -> x.morning(1, 2, i), -10, Edges.BADS);
                }
                e.due("NONE is none such", state.make().morning(1, 2, NONE) >= 0 ? 1 : 0, 1);
            }
        });
    }

    private void surely() {
        e.sentence("Promise 18", "SURELY, as bits.", "none in common: 0; one; 255, where but one set gives it; nothing is changed", () -> {
            e.quiet("none in common", () -> some(4, 4), x -> x.surely(1, 2), 0);
            e.quiet("one", () -> some(0, 1), x -> x.surely(1, 2), 16);
            // 1 by 8 of red: the only one of 12 among eight.
            e.quiet("all", () -> Edges.house("cloth 0 0 12;cloth 0 0 0;cloth 1 0 0;cloth 3 0 0;thing 0;thing 0;thing 0;thing 0;"),
                    x -> x.surely(1, 8), 255);
            e.asksAlone("surely(5, 12)", Edges::furnished, x -> x.surely(5, 12));
            e.asksAlone("surely(1, 1)", Edges::full, x -> x.surely(1, 1));
        });
        e.sentence("Promise 18", "NONE: no set.", "no NUMBERS; those that can not give it", () -> {
            e.quiet("no NUMBERS", Edges::empty, x -> x.surely(0, 1), NONE);
            e.quiet("WHITES and VAINS alone", () -> Edges.house("cloth 2 0 6;cloth 4 0 6;"), x -> x.surely(1, 2), NONE);
            e.quiet("near it", () -> some(4, 4), x -> x.surely(49, 99), NONE);
            e.quiet("near it", () -> some(4, 4), x -> x.surely(50, 99), NONE);
        });
        e.sentence("Promise 18", "BAD.", "all a and b about 0 and 99", () -> {
            for (int b = -2; b <= 101; b++) {
                LentShades x = Edges.house("thing 0;");
                int bads = 0;
                for (int a = -2; a <= 102; a++) {
                    boolean right = 0 <= a && a <= b && 1 <= b && b <= 99;
                    e.due("surely(" + a + ", " + b + ")", x.surely(a, b), !right ? BAD : a == 0 ? 16 : NONE);
                    bads += right ? 0 : 1;
                }
                e.due("status(0)", x.status(0), bads);
            }
            e.only(1, 99, "surely(0, v)", () -> some(1, 1), (x, v) -> x.surely(0, v), BAD);
            e.only(7, 99, "surely(7, v)", Edges::furnished, (x, v) -> x.surely(7, v), BAD);
            e.only(0, 99, "surely(v, 99)", Edges::furnished, (x, v) -> x.surely(v, 99), BAD);
            e.only(0, 1, "surely(v, 1)", Edges::full, (x, v) -> x.surely(v, 1), BAD);
        });
    }

    private void borrower() {
        e.sentence("Promise 19", "A BORROWER: the number.", "0 with none there, 5 with five; refused ones take none", () -> {
            LentShades x = some(2, 0);
            for (int k = 0; k < 6; k++) {
                e.due("count(5)", x.count(5), k);
                e.due("a refused one", x.borrower(2, 0, 0, 0), BAD);
                e.due("borrower", x.borrower(k % 2, k, 12 - k, 2 * k), k);
            }
            e.due("count(5)", x.count(5), 6);
        });
        e.sentence("Promise 19", "BAD;", "CLOTHS with none to four there", () -> {
            for (int cloths = 0; cloths <= 4; cloths++) {
                int so = cloths;
                e.only(0, cloths - 1, "borrower(v, 1, 2, 3)", () -> some(so, 4 - so), (x, v) -> x.borrower(v, 1, 2, 3), BAD);
            }
            e.only(0, 2, "borrower(v, 1, 2, 3)", Edges::furnished, (x, v) -> x.borrower(v, 1, 2, 3), BAD);
        });
        e.sentence("Promise 19", "BAD;", "NIGHTS 0 to 12, the first no later than the last", () -> {
            e.only(0, 12, "borrower(1, v, 12, 3)", Edges::furnished, (x, v) -> x.borrower(1, v, 12, 3), BAD);
            e.only(0, 5, "borrower(1, v, 5, 3)", Edges::furnished, (x, v) -> x.borrower(1, v, 5, 3), BAD);
            e.only(0, 12, "borrower(1, 0, v, 3)", Edges::furnished, (x, v) -> x.borrower(1, 0, v, 3), BAD);
            e.only(7, 12, "borrower(1, 7, v, 3)", Edges::furnished, (x, v) -> x.borrower(1, 7, v, 3), BAD);
        });
        e.sentence("Promise 19", "BAD;", "a 0 to 12", () ->
            e.only(0, 12, "borrower(1, 2, 3, v)", Edges::furnished, (x, v) -> x.borrower(1, 2, 3, v), BAD));
        e.sentence("Promise 19", "FULL: 6.", "a sixth is taken, a seventh is not; behind refuse() there is room", () -> {
            e.due("the sixth", Edges.furnished().borrower(0, 0, 0, 0), 5);
            e.refused("a seventh", Edges::full, x -> x.borrower(0, 0, 0, 0), FULL, Edges.FULLS);
            e.refused("a seventh", Edges::full, x -> x.borrower(3, 12, 12, 12), FULL, Edges.FULLS);
            for (int far : FAR) {
                e.refused("a seventh, BAD, too", Edges::full, x -> x.borrower(far, 0, 0, 0), BAD, Edges.BADS);
                e.refused("a seventh, BAD, too", Edges::full, x -> x.borrower(0, far, 12, 0), BAD, Edges.BADS);
                e.refused("a seventh, BAD, too", Edges::full, x -> x.borrower(0, 0, far, 0), BAD, Edges.BADS);
                e.refused("a seventh, BAD, too", Edges::full, x -> x.borrower(0, 0, 0, far), BAD, Edges.BADS);
            }
            LentShades x = Edges.full();
            x.refuse();
            e.due("anew", x.borrower(0, 0, 0, 0), 0);
        });
    }

    private void refuse() {
        e.sentence("Promise 20", "No BORROWERS: how many there were.", "0 to 6; all else stays", () -> {
            for (int had = 0; had <= 6; had++) {
                LentShades x = some(1, 0);
                for (int k = 0; k < had; k++) {
                    x.borrower(0, k, k, 0);
                }
                e.due("lent(0)", x.lent(0), had);
                e.due("refuse", x.refuse(), had);
                e.due("count(5)", x.count(5), 0);
                e.due("lent(0)", x.lent(0), 0);
                e.due("lent(1)", x.lent(1), 0);
                e.due("again", x.refuse(), 0);
                e.status(x, 0, 0, 0);
            }
            LentShades x = Edges.full();
            LentShades y = Edges.full();
            e.due("refuse", x.refuse(), 6);
            for (int k = 0; k < 6; k++) {
                e.due("the same ones anew", x.borrower(k % 4, k, 2 * k, k), k);
            }
            e.alike("the same ones anew", x, y);
        });
    }

    private void lent() {
        e.sentence("Promise 21", "LENT: how many (0), who (1, bits).", "none there, none served, all six served; nothing is changed", () -> {
            Edges.State six = () -> {
                LentShades x = some(1, 0);
                for (int k = 0; k < 6; k++) {
                    x.borrower(0, 2 * k, 2 * k + 1, 6);
                }
                return x;
            };
            Edges.State paler = () -> {
                LentShades x = some(1, 0);
                for (int k = 0; k < 6; k++) {
                    x.borrower(0, 2 * k, 2 * k + 1, 7);
                }
                return x;
            };
            Edges.State last = () -> {
                LentShades x = some(4, 0);
                for (int k = 0; k < 6; k++) {
                    x.borrower(3, 12, 12, 12 - k - (k == 5 ? 1 : 0));
                }
                return x;
            };
            e.quiet("none there", Edges::empty, x -> x.lent(0), 0);
            e.quiet("none there", Edges::empty, x -> x.lent(1), 0);
            e.quiet("none served", paler, x -> x.lent(0), 0);
            e.quiet("none served", paler, x -> x.lent(1), 0);
            e.quiet("all served", six, x -> x.lent(0), 6);
            e.quiet("all served", six, x -> x.lent(1), 63);
            e.quiet("the last one alone", last, x -> x.lent(0), 1);
            e.quiet("the last one alone", last, x -> x.lent(1), 32);
            e.asksAlone("lent(0)", Edges::furnished, x -> x.lent(0));
            e.asksAlone("lent(1)", Edges::full, x -> x.lent(1));
        });
        e.sentence("Promise 21", "BAD.", "what 0 to 1", () -> {
            e.only(0, 1, "lent(v)", Edges::empty, LentShades::lent, BAD);
            e.only(0, 1, "lent(v)", Edges::furnished, LentShades::lent, BAD);
            e.only(0, 1, "lent(v)", Edges::full, LentShades::lent, BAD);
        });
    }

    private void colours() {
        e.sentence("Promise 22", "COLOURS.", "0 of none, 1 of eight alike, 8 of eight unlike; nothing is changed", () -> {
            e.quiet("none", Edges::empty, LentShades::colours, 0);
            e.quiet("alike", () -> some(4, 4), LentShades::colours, 1);
            e.quiet("unlike", () -> Edges.house("cloth 0 0 12;cloth 0 0 11;cloth 2 0 0;cloth 4 0 1;thing 9;thing 2;thing 3;thing 10;"),
                    LentShades::colours, 8);
            e.quiet("THINGS alone", () -> Edges.house("thing 0;thing 12;thing 0;thing 11;"), LentShades::colours, 3);
            e.quiet("CLOTHS alone", () -> Edges.house("cloth 0 0 1;cloth 2 0 0;cloth 4 0 1;cloth 1 0 12;"), LentShades::colours, 3);
            e.asksAlone("colours", Edges::furnished, LentShades::colours);
            e.asksAlone("colours", Edges::full, LentShades::colours);
        });
    }

    private void least() {
        e.sentence("Promise 23", "LEAST.", "0, 12, of the first THING and CLOTH, of the last; nothing is changed", () -> {
            for (int t = 0; t < 4; t++) {
                for (int i = 0; i < 4; i++) {
                    LentShades x = some(4, 4);
                    x.touch(i, 4 + t, 2);
                    e.due("0 parts", x.least(t, i, 1, 0), 0);
                    e.due("7 parts", x.least(t, i, 1, 7), 7);
                    e.due("12 parts", x.least(t, i, 12, 12), 12);
                    e.due("another THING", x.least(3 - t, i, 1, 6), t == 3 - t ? 6 : 0);
                    e.due("another CLOTH", x.least(t, 3 - i, 1, 6), 0);
                    e.due("its COLOUR", x.colour(t, 0), 6);
                }
            }
            for (int n : new int[] {0, 1, 12}) {
                e.asksAlone("least(0, 0, " + n + ", 9)", Edges::furnished, x -> x.least(0, 0, n, 9));
                e.asksAlone("least(2, 3, " + n + ", 6)", Edges::full, x -> x.least(2, 3, n, 6));
            }
        });
        e.sentence("Promise 23", "NONE.", "12 are not enough, behind 0, 1, 12 NIGHTS; it is no refusal", () -> {
            Edges.State halves = () -> Edges.house("cloth 1 0 0;cloth 0 0 11;thing 12;thing 3;touch 0 4 1;");
            e.quiet("now", halves, x -> x.least(0, 1, 0, 12), NONE);
            e.quiet("behind one", halves, x -> x.least(0, 0, 1, 7), NONE);
            e.quiet("behind twelve", halves, x -> x.least(0, 0, 12, 12), NONE);
            e.quiet("just so", halves, x -> x.least(0, 0, 1, 6), 12);
            e.quiet("just so", halves, x -> x.least(1, 1, 12, 11), 0);
        });
        e.sentence("Promise 23", "BAD.", "THINGS and CLOTHS with none to four there", () -> {
            for (int there = 0; there <= 4; there++) {
                int so = there;
                e.only(0, there - 1, "least(v, 0, 1, 6)", () -> some(4, so), (x, v) -> x.least(v, 0, 1, 6), BAD);
                e.only(0, there - 1, "least(0, v, 1, 6)", () -> some(so, 4), (x, v) -> x.least(0, v, 1, 6), BAD);
            }
            e.only(0, 2, "least(v, 0, 1, 6)", Edges::furnished, (x, v) -> x.least(v, 0, 1, 6), BAD);
            e.only(0, 3, "least(v, 0, 1, 6)", Edges::full, (x, v) -> x.least(v, 0, 1, 6), BAD);
            e.only(0, 2, "least(0, v, 1, 6)", Edges::furnished, (x, v) -> x.least(0, v, 1, 6), BAD);
            e.only(0, 3, "least(0, v, 1, 6)", Edges::full, (x, v) -> x.least(0, v, 1, 6), BAD);
        });
        e.sentence("Promise 23", "BAD.", "n 0 to 12", () -> {
            e.only(0, 12, "least(1, 1, v, 6)", Edges::furnished, (x, v) -> x.least(1, 1, v, 6), BAD);
            e.only(0, 12, "least(1, 1, v, 6)", Edges::full, (x, v) -> x.least(1, 1, v, 6), BAD);
        });
        e.sentence("Promise 23", "BAD.", "a 0 to 12", () -> {
            e.only(0, 12, "least(1, 1, 3, v)", Edges::furnished, (x, v) -> x.least(1, 1, 3, v), BAD);
            e.only(0, 12, "least(1, 1, 3, v)", Edges::full, (x, v) -> x.least(1, 1, 3, v), BAD);
        });
    }
}
