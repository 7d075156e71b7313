/** The first part of 'Terms': cloths, things, hours, kinds, and a house told by a text. */
final class EdgesOfHouses {
    private static final int BAD = Edges.BAD, NO = Edges.NO, FULL = Edges.FULL;

    private final Edges e;

    private EdgesOfHouses(Edges e) {
        this.e = e;
    }

    static void tell(Edges e) {
        EdgesOfHouses t = new EdgesOfHouses(e);
        t.numbers();
        t.hours();
        t.plainAndFast();
        t.whiteAndThirsty();
        t.greatestOfAll();
        t.vain();
        t.items();
        t.touchItems();
        t.tokens();
        t.faults();
        t.everyByte();
        t.replaced();
    }

    private void term(String words, String edge, Runnable test) {
        e.sentence("Terms", words, edge, test);
    }

    private void numbers() {
        term("CLOTHS 0 .. 3, as they come", "from none to four, a fifth is FULL", () -> {
            LentShades x = new LentShades();
            for (int k = 0; k < 4; k++) {
                e.due("count(0)", x.count(0), k);
                e.due("the next one is not there", x.shade(k, 0), BAD);
                e.due("cloth", x.cloth(0, 0, 3 * k), k);
                for (int i = 0; i <= k; i++) {
                    e.shade(x, i, 0, 3 * i, 12);
                }
            }
            e.due("a fifth", x.cloth(0, 0, 0), FULL);
            e.due("count(0)", x.count(0), 4);
            e.due("CLOTH 4", x.shade(4, 0), BAD);
            e.due("CLOTH -1", x.shade(-1, 0), BAD);
        });
        term("a KIND, HOLD (0 .. 3)", "each HOLD of each KIND is kept", () -> {
            for (int kind = 0; kind <= 4; kind++) {
                for (int hold = 0; hold <= 3; hold++) {
                    LentShades x = new LentShades();
                    e.due("cloth", x.cloth(kind, hold, 0), 0);
                    e.due("digest", x.digest(), Edges.digest(1, 0, 0, 0, 0, 0, kind, hold, 0, 12,
                            0, 0, 0, 0, 0, 0, 0, 0, 0, 0, 1, 1));
                }
            }
        });
        term("a SHADE at first (0 .. 12 parts of twelve)", "each of the thirteen, as a fraction", () -> {
            for (int v = 0; v <= 12; v++) {
                LentShades x = new LentShades();
                x.cloth(0, 0, v);
                e.shade(x, 0, 0, v, 12);
            }
        });
        term("THINGS 0 .. 3, as they come: COLOUR (0 .. 12 parts of twelve)", "from none to four, each COLOUR", () -> {
            LentShades x = new LentShades();
            for (int k = 0; k < 4; k++) {
                e.due("count(1)", x.count(1), k);
                e.due("the next one is not there", x.colour(k, 0), BAD);
                e.due("thing", x.thing(3 * k), k);
            }
            e.due("a fifth", x.thing(0), FULL);
            for (int k = 0; k < 4; k++) {
                e.due("COLOUR as told", x.colour(k, 12), 3 * k);
            }
            for (int v = 0; v <= 12; v++) {
                LentShades y = new LentShades();
                e.due("thing", y.thing(v), 0);
                e.due("its COLOUR", y.colour(0, 0), v);
            }
        });
        term("NUMBERS 0 .. 3 are CLOTHS, 4 .. 7 THINGS 0 .. 3.", "each NUMBER by each CLOTH; -1 and 8 are none", () -> {
            LentShades x = Edges.house("cloth 0 0 1;cloth 0 0 2;cloth 0 0 3;cloth 0 0 4;thing 5;thing 6;thing 7;thing 8;");
            for (int i = 0; i < 4; i++) {
                for (int n = 0; n < 8; n++) {
                    if (n != i) {
                        e.due("touch", x.touch(i, n, 2), 0);
                        e.shade(x, i, 1, n + 1, 12);
                        e.due("touch back", x.touch(n, i, 0), 2);
                    }
                }
                e.due("NUMBER 8", x.touch(i, 8, 1), BAD);
                e.due("NUMBER -1", x.touch(i, -1, 1), BAD);
            }
        });
    }

    private void hours() {
        term("HOURS (0 .. 3; 0 at first)", "0 at first for each pair, however it came; 0 to 3 are kept", () -> {
            LentShades typed = Edges.house("cloth 0 0 1;cloth 0 0 2;cloth 0 0 3;cloth 0 0 4;"
                    + "thing 5;thing 6;thing 7;thing 8;");
            LentShades called = new LentShades();
            for (int k = 0; k < 4; k++) {
                called.cloth(k, k, k);
                called.thing(k);
            }
            for (LentShades x : new LentShades[] {typed, called}) {
                for (int i = 0; i < 4; i++) {
                    for (int n = i + 1; n < 8; n++) {
                        e.due("at first", x.touch(i, n, 0), 0);
                        for (int h = 0; h <= 3; h++) {
                            e.due("taken", x.touch(i, n, h) >= 0 ? 1 : 0, 1);
                            e.due("kept", x.touch(i, n, h), h);
                        }
                        x.touch(i, n, 0);
                    }
                }
            }
        });
        term("of a CLOTH and another CLOTH (alike both ways), or a THING.", "both ways, for each pair", () -> {
            LentShades x = Edges.house("cloth 0 0 1;cloth 0 0 2;cloth 0 0 3;cloth 0 0 4;thing 5;thing 6;thing 7;thing 8;");
            for (int i = 0; i < 4; i++) {
                for (int n = i + 1; n < 8; n++) {
                    x.touch(i, n, 1);
                    e.due("the other way", x.touch(n, i, 3), 1);
                    e.due("and back", x.touch(i, n, 2), 3);
                }
            }
            long[] all = new long[6 + 4 * 12 + 4 + 4];
            long[] counts = {4, 4, 0, 0, 0, 0};
            System.arraycopy(counts, 0, all, 0, 6);
            for (int i = 0; i < 4; i++) {
                all[6 + 12 * i + 3] = 12;
                for (int n = 0; n < 8; n++) {
                    all[6 + 12 * i + 4 + n] = n == i ? 0 : 2;
                }
                all[54 + i] = 5 + i;
            }
            all[60] = 1;
            all[61] = 1;
            e.due("digest", x.digest(), Edges.digest(all));
        });
    }

    /** A house of the first cloth as told, a second PLAIN one, things 12 and 0. */
    private LentShades beside(int kind, int hold, int shade, int second) {
        LentShades x = new LentShades();
        x.cloth(kind, hold, shade);
        x.cloth(0, 0, second);
        x.thing(12);
        x.thing(0);
        return x;
    }

    private void plainAndFast() {
        term("KINDS, each under the one told", "0 to 4 are there, 5 and -1 are none", () -> {
            for (int kind = 0; kind <= 4; kind++) {
                e.due("cloth", new LentShades().cloth(kind, 0, 0), 0);
                e.due("read", Edges.text("cloth " + kind + " 0 0;").read(), 1);
            }
            e.due("KIND 5", new LentShades().cloth(5, 0, 0), BAD);
            e.due("KIND -1", new LentShades().cloth(-1, 0, 0), BAD);
            e.due("KIND 5 in a TEXT", Edges.text("cloth 5 0 0;").read(), -16);
        });
        term("in a NIGHT the SHADE of a CLOTH becomes the mean of what it TAKES, each by how much", "all HOURS of two things", () -> {
            for (int h = 0; h <= 3; h++) {
                for (int g = 0; g <= 3; g++) {
                    LentShades x = beside(0, 0, 5, 0);
                    x.touch(0, 4, h);
                    x.touch(0, 5, g);
                    e.shade(x, 0, 1, h + g == 0 ? 5 : 12 * h, h + g == 0 ? 12 : 12 * (h + g));
                }
            }
        });
        term("(if that is 0 in all: it stays)", "no HOURS, HOURS put back to 0, HOURS with a WHITE alone, all KINDS", () -> {
            for (int kind = 0; kind <= 4; kind++) {
                LentShades x = Edges.house("cloth " + kind + " 0 7;cloth 2 0 12;thing 12;");
                e.shade(x, 0, 1, 7, 12);
                x.touch(0, 4, 3);
                x.touch(0, 4, 0);
                e.shade(x, 0, 12, 7, 12);
                x.touch(0, 1, 3);
                e.shade(x, 0, 12, 7, 12);
                x.touch(0, 4, 1);
                e.due("with 1 HOUR it does not stay", x.shade(0, 1) == 1 && x.limb(0, 0) == 7 && x.limb(1, 0) == 12 ? 1 : 0, 0);
            }
        });
        term("0 PLAIN: of all it touches by HOURS.", "nothing of its own at any HOLD; cloths and things alike", () -> {
            for (int hold = 0; hold <= 3; hold++) {
                LentShades x = beside(0, hold, 12, 4);
                x.touch(0, 5, 1);
                e.shade(x, 0, 1, 0, 1);
                x.touch(0, 1, 3);
                e.shade(x, 0, 1, 3 * 4, 12 * 4);
                x.touch(0, 4, 2);
                e.shade(x, 0, 1, 3 * 4 + 2 * 12, 12 * 6);
            }
        });
        term("1 FAST (under PLAIN): its own, too, by HOLD and 1.", "HOLD 0 to 3, HOURS 0 to 3, of cloths and things", () -> {
            for (int hold = 0; hold <= 3; hold++) {
                for (int h = 0; h <= 3; h++) {
                    LentShades x = beside(1, hold, 12, 0);
                    x.touch(0, 5, h);
                    e.shade(x, 0, 1, hold + 1, hold + 1 + h);
                    LentShades y = beside(1, hold, 12, 0);
                    y.touch(0, 1, h);
                    e.shade(y, 0, 1, hold + 1, hold + 1 + h);
                }
            }
        });
        term("All change at once.", "two change places; of three each takes what was", () -> {
            LentShades x = Edges.house("cloth 0 0 12;cloth 0 0 0;touch 0 1 1;");
            e.shade(x, 0, 1, 0, 1);
            e.shade(x, 1, 1, 1, 1);
            e.shade(x, 0, 2, 1, 1);
            e.shade(x, 1, 2, 0, 1);
            LentShades y = Edges.house("cloth 1 0 0;cloth 1 0 6;cloth 4 0 12;touch 0 1 1;touch 1 2 1;");
            e.shade(y, 0, 1, 3, 12);
            e.shade(y, 1, 1, 3, 12);
            e.shade(y, 2, 1, 6, 12);
            e.shade(y, 2, 2, 3, 12);
        });
    }

    private void whiteAndThirsty() {
        term("2 WHITE (under PLAIN): as PLAIN; others take nothing of it.", "it takes by HOURS at any HOLD; of it none takes", () -> {
            for (int hold = 0; hold <= 3; hold++) {
                LentShades x = beside(2, hold, 12, 4);
                x.touch(0, 5, 1);
                e.shade(x, 0, 1, 0, 1);
                x.touch(0, 1, 3);
                e.shade(x, 0, 1, 3 * 4, 12 * 4);
                e.shade(x, 1, 1, 4, 12);
                x.touch(1, 4, 1);
                e.shade(x, 1, 1, 1, 1);
            }
        });
        term("3 THIRSTY (under FAST): as FAST; of THINGS by twice the HOURS.", "HOLD 0 to 3, HOURS 0 to 3; of cloths once", () -> {
            for (int hold = 0; hold <= 3; hold++) {
                for (int h = 0; h <= 3; h++) {
                    LentShades x = beside(3, hold, 12, 0);
                    x.touch(0, 5, h);
                    e.shade(x, 0, 1, hold + 1, hold + 1 + 2 * h);
                    LentShades y = beside(3, hold, 12, 0);
                    y.touch(0, 1, h);
                    e.shade(y, 0, 1, hold + 1, hold + 1 + h);
                    y.touch(0, 4, 1);
                    e.shade(y, 0, 1, hold + 1 + 2, hold + 1 + h + 2);
                    // The other one takes of it by the HOURS alone.
                    e.shade(y, 1, 1, h == 0 ? 0 : 1, 1);
                }
            }
        });
        term("(Others take nothing of WHITES and VAINS.)", "each KIND, beside a WHITE, beside a VAIN", () -> {
            for (int kind = 0; kind <= 4; kind++) {
                for (int other = 0; other <= 4; other++) {
                    LentShades x = Edges.house("cloth " + kind + " 0 6;cloth " + other + " 0 12;touch 0 1 1;");
                    boolean lends = other != 2 && other != 4;
                    int parts = !lends ? 6 : kind == 1 || kind == 3 ? 9 : 12;
                    e.shade(x, 0, 1, parts, 12);
                }
            }
        });
    }

    private void greatestOfAll() {
        term("of THINGS by twice the HOURS.", "37 in all: four THIRSTY of HOLD 3 touch all NUMBERS for 3 HOURS", () -> {
            LentShades x = Edges.house("cloth3 3 0;cloth3 3 5;cloth3 3 7;cloth3 3 12;thing12;thing1;thing7;thing11;");
            for (int i = 0; i < 4; i++) {
                for (int n = i + 1; n < 8; n++) {
                    x.touch(i, n, 3);
                }
            }
            int[] shades = {0, 5, 7, 12};
            for (int i = 0; i < 4; i++) {
                e.shade(x, i, 1, 4 * shades[i] + 3 * (24 - shades[i]) + 6 * 31, 12 * 37);
            }
            LentShades red = Edges.house("cloth3 3 12;cloth3 3 12;cloth3 3 12;cloth3 3 12;thing12;thing12;thing12;thing12;");
            for (int i = 0; i < 4; i++) {
                for (int n = i + 1; n < 8; n++) {
                    red.touch(i, n, 3);
                }
            }
            e.shade(red, 3, 12, 1, 1);
        });
    }

    private void vain() {
        term("4 VAIN (under WHITE): the greatest SHADE or COLOUR of what it touches", "from each CLOTH to each other one", () -> {
            for (int i = 0; i < 4; i++) {
                for (int j = 0; j < 4; j++) {
                    LentShades x = new LentShades();
                    for (int k = 0; k < 4; k++) {
                        x.cloth(k == i ? 4 : k == j ? 3 : 0, 1, k == i ? 2 : 5 + k);
                    }
                    if (i != j) {
                        x.touch(i, j, 1);
                        e.shade(x, i, 1, 5 + j, 12);
                        x.touch(i, j, 0);
                    }
                    e.shade(x, i, 1, 2, 12);
                    for (int k = 0; k < 4; k++) {
                        x.touch(i, k, 3);
                    }
                    e.shade(x, i, 1, i == 3 ? 7 : 8, 12);
                }
            }
        });
        term("4 VAIN (under WHITE): the greatest SHADE or COLOUR of what it touches", "of cloths, of things, of both, alike ones", () -> {
            LentShades x = Edges.house("cloth 4 3 12;cloth 0 0 3;cloth 1 0 5;thing 4;thing 6;touch 0 1 1;");
            e.shade(x, 0, 1, 3, 12);
            x.touch(0, 4, 1);
            e.shade(x, 0, 1, 4, 12);
            x.touch(0, 2, 1);
            e.shade(x, 0, 1, 5, 12);
            x.touch(0, 5, 1);
            e.shade(x, 0, 1, 6, 12);
            x.colour(1, 5);
            e.shade(x, 0, 1, 5, 12);
            x.touch(0, 2, 0);
            e.shade(x, 0, 1, 5, 12);
            // Its own 12 never count, nor does its HOLD.
            x.touch(0, 5, 0);
            x.touch(0, 4, 0);
            e.shade(x, 0, 1, 3, 12);
        });
        term("(HOURS above 0, no WHITES, VAINS; none: it stays)", "0 HOURS, 1 HOUR, a COLOUR of 0, WHITES and VAINS alone", () -> {
            LentShades x = Edges.house("cloth 4 0 7;cloth 2 0 12;cloth 4 0 12;cloth 0 0 0;thing 0;thing 12;");
            e.shade(x, 0, 12, 7, 12);
            x.touch(0, 1, 3);
            x.touch(0, 2, 3);
            e.shade(x, 0, 12, 7, 12);
            x.touch(0, 4, 1);
            e.shade(x, 0, 1, 0, 12);
            x.touch(0, 4, 0);
            e.shade(x, 0, 1, 7, 12);
            x.touch(0, 3, 1);
            e.shade(x, 0, 1, 0, 12);
            x.touch(0, 5, 1);
            e.shade(x, 0, 1, 12, 12);
            x.touch(0, 5, 0);
            e.shade(x, 0, 1, 0, 12);
        });
    }

    /** What a TEXT answers on a new object; if it is a fault, on others all stays. */
    private void reads(String text, int want) {
        e.due("read of '" + text + "'", Edges.text(text).read(), want);
        if (want < 0) {
            for (Edges.State state : new Edges.State[] {Edges::empty, Edges::furnished, Edges::full}) {
                e.quiet("read of '" + text + "'", () -> {
                    LentShades x = state.make();
                    x.clear();
                    Edges.type(x, text);
                    return x;
                }, LentShades::read, want);
            }
        }
    }

    private void items() {
        term("THE HOUSE is a TEXT (200 bytes at most)", "200 bytes are read to the last, 201 are FULL", () -> {
            String end = "cloth 0 0 0;thing 9;touch 0 4 3;";
            LentShades x = Edges.text(" ".repeat(200 - end.length()) + end);
            e.due("count(4)", x.count(4), 200);
            e.due("a byte more", x.type(' ', 1), FULL);
            e.due("read", x.read(), 3);
            e.due("the last figure", x.touch(0, 4, 0), 3);
            LentShades y = Edges.text(" ".repeat(199) + "x");
            e.due("a FAULT at the last byte", y.read(), -10 - 199);
        });
        term("of ITEMS, each ended by ;", "one, two, none; the last one without its end; a second end", () -> {
            reads("thing 1;", 1);
            reads("thing 1;thing 2;", 2);
            reads("thing 1", -17);
            reads("thing 1;thing 2", -25);
            reads("thing 1 thing 2;", -18);
            reads("thing 1;;", -18);
            reads(";", -10);
            reads(";thing 1;", -10);
        });
        term("cloth KIND HOLD SHADE;", "0 and the greatest of each, the first one above", () -> {
            reads("cloth 0 0 0;", 1);
            reads("cloth 4 3 12;", 1);
            reads("cloth 5 0 0;", -16);
            reads("cloth 0 4 0;", -18);
            reads("cloth 0 0 13;", -20);
            reads("cloth 0 0;", -19);
            reads("cloth 0 0 0 0;", -22);
            LentShades x = Edges.house("cloth 1 3 12;cloth 4 0 11;");
            e.due("digest", x.digest(), Edges.digest(2, 0, 0, 0, 0, 0, 1, 3, 0, 12, 0, 0, 0, 0, 0, 0, 0, 0,
                    4, 0, 0, 12, 0, 0, 0, 0, 0, 0, 0, 0, 0, 0, 1, 1));
            e.shade(x, 0, 0, 12, 12);
            e.shade(x, 1, 0, 11, 12);
        });
        term("thing COLOUR;", "0, 12, 13", () -> {
            reads("thing 0;", 1);
            reads("thing 12;", 1);
            reads("thing 13;", -16);
            reads("thing 99;", -16);
            reads("thing;", -15);
            reads("thing 1 1;", -18);
            LentShades x = Edges.house("thing 0;thing 12;");
            e.due("COLOUR", x.colour(0, 1), 0);
            e.due("COLOUR", x.colour(1, 1), 12);
        });
    }

    private void touchItems() {
        String cloths = "cloth 0 0 0;cloth 0 0 0;cloth 0 0 0;cloth 0 0 0;";
        String things = "thing 1;thing 1;thing 1;thing 1;";
        term("touch a b h (NUMBERS that are there", "3 and 7 if all are there; those that are not there yet; 8", () -> {
            reads(cloths + things + "touch 3 7 1;", 9);
            reads(cloths + things + "touch 7 3 1;", 9);
            reads(cloths + things + "touch 8 0 1;", -10 - 86);
            reads(cloths + things + "touch 0 8 1;", -10 - 88);
            reads("touch 0 1 1;" + cloths, -16);
            reads("cloth 0 0 0;touch 0 1 1;cloth 0 0 0;", -30);
            reads("cloth 0 0 0;touch 1 0 1;cloth 0 0 0;", -28);
            reads("cloth 0 0 0;touch 0 4 1;thing 1;", -30);
            reads("thing 1;touch 0 4 1;cloth 0 0 0;", -24);
            reads("cloth 0 0 0;thing 1;touch 0 4 1;", 3);
            reads("cloth 0 0 0;thing 1;touch 0 5 1;", -38);
            for (int n = 1; n <= 4; n++) {
                String some = cloths.substring(0, 12 * n) + things.substring(0, 8 * n);
                int start = -10 - some.length() - 6;
                reads(some + "touch " + (n + 3) + " 0 1;", 2 * n + 1);
                reads(some + "touch 0 " + (n + 3) + " 1;", 2 * n + 1);
                reads(some + "touch " + (n + 4) + " 0 1;", start);
                reads(some + "touch 0 " + (n + 4) + " 1;", start - 2);
                if (n < 4) {
                    reads(some + "touch " + n + " 4 1;", start);
                    reads(some + "touch 4 " + n + " 1;", start - 2);
                }
            }
        });
        term(", unlike,", "a and b are one, a CLOTH or a THING: at b", () -> {
            reads("cloth 0 0 0;touch 0 0 1;", -30);
            reads("cloth 0 0 0;touch 0 00 1;", -30);
            reads("cloth 0 0 0;thing 1;touch 4 4 1;", -38);
            reads("cloth 0 0 0;cloth 0 0 0;touch 1 1 0;", -42);
        });
        term("not both THINGS;", "two unlike THINGS: at b", () -> {
            reads("thing 1;thing 2;touch 4 5 1;", -34);
            reads("thing 1;thing 2;touch 5 4 1;", -34);
            reads("cloth 0 0 0;thing 1;thing 2;touch 5 0 1;", 4);
        });
        term("h 0 .. 3)", "0, 3, 4", () -> {
            reads("cloth 0 0 0;thing 1;touch 0 4 0;", 3);
            reads("cloth 0 0 0;thing 1;touch 0 4 3;", 3);
            reads("cloth 0 0 0;thing 1;touch 0 4 4;", -40);
            for (int h = 0; h <= 3; h++) {
                LentShades x = Edges.house("cloth 0 0 0;cloth 0 0 0;thing 1;touch 0 1 3;touch 1 0 " + h + ";touch 4 1 " + h + ";");
                e.due("HOURS", x.touch(0, 1, 0), h);
                e.due("HOURS", x.touch(1, 4, 0), h);
            }
        });
    }

    private void tokens() {
        term("TOKENS: words of letters a .. z,", "the bytes about a and z; greater letters; a word to its end", () -> {
            reads("`", -10);
            reads("{", -10);
            reads("@", -10);
            reads("[", -10);
            reads("A", -10);
            reads("Z", -10);
            reads("thing`1;", -15);
            reads("thing{1;", -15);
            reads("Thing 1;", -10);
            reads("thinG 1;", -10);
            reads("athing 1;", -10);
            reads("thinga 1;", -10);
            reads("thingz 1;", -10);
            reads("thingthing 1;", -10);
        });
        term("figures (1 or 2 are one number),", "one, two, three; a 0 ahead; the bytes about 0 and 9", () -> {
            reads("thing 9;", 1);
            reads("thing 09;", 1);
            reads("thing 00;", 1);
            reads("thing 10;", 1);
            reads("thing 009;", -16);
            reads("thing 000;", -16);
            reads("thing 123;", -16);
            reads("thing 1 2;", -18);
            reads("cloth 04 03 12;", 1);
            reads("cloth 0 0 1 2;", -22);
            reads("thing /;", -16);
            reads("thing :;", -16);
            reads("thing 1/", -17);
            reads("thing 1:", -17);
            e.due("09 is 9", Edges.house("thing 09;").colour(0, 0), 9);
            e.due("12 is 12", Edges.house("thing 12;").colour(0, 0), 12);
            e.due("2 is 2", Edges.house("thing 2;").colour(0, 0), 2);
        });
        term("blanks (32) between.", "none where TOKENS can be told apart, one, many, ahead, behind; the bytes about 32", () -> {
            reads("thing1;", 1);
            reads("thing1;thing2;", 2);
            reads("cloth0 0 0;touch", -26);
            reads("   thing   1   ;   ", 1);
            reads(" ".repeat(200), 0);
            reads("thi ng 1;", -10);
            reads("cloth 000;", -16);
            reads("thing\u001f1;", -15);
            reads("thing!1;", -15);
            reads("thing\t1;", -15);
            reads("thing\n1;", -15);
            reads("thing\r1;", -15);
            reads("thing\u00001;", -15);
            reads("thing\u00a01;", -15);
        });
    }

    private void faults() {
        String four = "cloth 0 0 0;cloth 0 0 0;cloth 0 0 0;cloth 0 0 0;";
        String things = "thing 1;thing 1;thing 1;thing 1;";
        term("FAULT: the place of the first byte of the first TOKEN that can not stand there", "at 0, behind blanks, the first of two", () -> {
            reads("x", -10);
            reads(" x", -11);
            reads("thing 1;   7", -21);
            reads("thing 13 14", -16);
            reads("touch 9 9 9", -16);
            reads("cloth 0 thing", -18);
            reads("cloth ; ;", -16);
            reads("cloth 0 0 0 thing", -22);
            reads("1 thing 1;", -10);
            reads("thing thing 1;", -16);
        });
        term("(a word that is none,", "shorter, longer, spoiled, where a number is due", () -> {
            reads("clot 0 0 0;", -10);
            reads("loth 0 0 0;", -10);
            reads("xloth 0 0 0;", -10);
            reads("clotx 0 0 0;", -10);
            reads("xhing 1;", -10);
            reads("thinx 1;", -10);
            reads("xouch 0 1 1;", -10);
            reads("toucx 0 1 1;", -10);
            reads("cloths 0 0 0;", -10);
            reads("clorh 0 0 0;", -10);
            reads("thin 1;", -10);
            reads("things 1;", -10);
            reads("touc 0 1 1;", -10);
            reads("touche 0 1 1;", -10);
            reads("cloth no 0 0;", -16);
            reads("thing 1;thong 1;", -18);
        });
        term("a fifth cloth,", "at its word, whatever is behind it; the fourth is taken", () -> {
            reads(four, 4);
            reads(four + "cloth 0 0 0;", -58);
            reads(four + "cloth", -58);
            reads(four + "  cloth 9", -60);
            reads(things + four + "cloth 0 0 0;", -90);
        });
        term("a fifth thing at its word,", "whatever is behind it; the fourth is taken", () -> {
            reads(things, 4);
            reads(things + "thing 1;", -42);
            reads(things + "thing", -42);
            reads(things + " thing 13;", -43);
            reads(four + things + "thing 1;", -90);
        });
        term("a third figure's number,", "at its first figure, even if it is small enough", () -> {
            reads("thing 001;", -16);
            reads("cloth 000 0 0;", -16);
            reads("cloth 0 000 0;", -18);
            reads("cloth 0 0 000;", -20);
            reads("cloth 0 0 0;thing 1;touch 000 4 1;", -36);
            reads("cloth 0 0 0;thing 1;touch 0 004 1;", -38);
            reads("cloth 0 0 0;thing 1;touch 0 4 001;", -40);
            reads("thing " + "0".repeat(194), -16);
            reads("thing 4294967297;", -16);
        });
        term("a number not as told,", "the first one above, where there is one", () -> {
            reads("cloth 5 0 0;", -16);
            reads("cloth 0 4 0;", -18);
            reads("cloth 0 0 13;", -20);
            reads("thing 13;", -16);
            reads("cloth 0 0 0;thing 1;touch 0 5 1;", -38);
            reads("cloth 0 0 0;thing 1;touch 0 4 4;", -40);
        });
        term("a byte that begins none, too);", "where an ITEM, a number, an end is due", () -> {
            reads("-", -10);
            reads("thing -1;", -16);
            reads("thing 1.", -17);
            reads("thing 1;\u00ff", -18);
            reads("cloth 0,0,0;", -17);
        });
        term("the TEXT's length, if it ends too early", "behind each TOKEN of each ITEM, with blanks behind, at 200", () -> {
            endsTooEarly("cloth 0 0 0;");
            endsTooEarly("thing 12;");
            endsTooEarly("cloth 0 0 0;thing 1;touch 0 4 1;");
            reads(" ".repeat(195) + "thing", -210);
            reads(" ".repeat(194) + "thing", -209);
            reads("thing 1" + " ".repeat(193), -210);
        });
        term("(an empty one: none)", "no byte, blanks alone: 0 ITEMS, all goes", () -> {
            reads("", 0);
            reads(" ", 0);
            LentShades x = Edges.furnished();
            x.clear();
            e.due("read", x.read(), 0);
            e.due("no CLOTHS", x.count(0), 0);
            e.due("no THINGS", x.count(1), 0);
            e.due("no NIGHTS", x.count(2), 0);
            e.due("none may be undone", x.count(3), 0);
        });
    }

    /** Cut off in its last item: at each place between its TOKENS, the FAULT is the TEXT's length. */
    private void endsTooEarly(String text) {
        int last = text.lastIndexOf(';', text.length() - 2) + 1;
        for (int end = last + 5; end < text.length(); end++) {
            reads(text.substring(0, end), -10 - end);
            reads(text.substring(0, end) + " ", -11 - end);
        }
    }

    private void everyByte() {
        term("a byte that begins none", "each of the 256 bytes, ahead of all, in place of a blank, of an end", () -> {
            for (int b = 0; b < 256; b++) {
                String s = String.valueOf((char) b);
                boolean figure = b >= '0' && b <= '9';
                boolean letter = b >= 'a' && b <= 'z';
                e.due("byte " + b + " alone", Edges.text(s).read(), b == ' ' ? 0 : -10);
                int ahead = b == ' ' ? 1 : -10;
                e.due("byte " + b + " ahead", Edges.text(s + "thing 1;").read(), ahead);
                int between = b == ' ' || b == '0' || b == '1' ? 1 : letter ? -10 : -15;
                e.due("byte " + b + " for a blank", Edges.text("thing" + s + "1;").read(), between);
                int behind = b == ';' ? 1 : figure && b > '2' ? -16 : figure || b == ' ' ? -18 : -17;
                e.due("byte " + b + " for an end", Edges.text("thing 1" + s).read(), behind);
                e.due("byte " + b + " in a word", Edges.text("th" + s + "ng 1;").read(), b == 'i' ? 1 : -10);
            }
        });
    }

    private void replaced() {
        term("A HOUSE that is read takes the place of all CLOTHS, THINGS, HOURS;", "a greater, a lesser, an empty one", () -> {
            for (String text : new String[] {"cloth 2 3 7;", "cloth 0 0 1;cloth 0 0 2;cloth 0 0 3;cloth 0 0 4;thing 1;thing 2;", " ",
                "cloth 1 1 7;cloth 4 0 3;thing 2;touch 0 4 1;touch 1 4 2;"}) {
                LentShades x = Edges.full();
                x.clear();
                Edges.type(x, text);
                LentShades y = Edges.text(text);
                e.due("as on a new object", x.read(), y.read());
                for (int k = 0; k < 6; k++) {
                    y.borrower(0, 0, 0, 0);
                }
                x.refuse();
                y.refuse();
                for (int k = 0; k < y.count(0); k++) {
                    e.due("shade", x.shade(k, 12), y.shade(k, 12));
                    e.due("digest", x.digest(), y.digest());
                }
                // All HOURS of what comes behind it are 0, too, and LEAST, MOST are as at first.
                for (int k = y.count(0); k < 4; k++) {
                    x.cloth(0, 0, 0);
                    y.cloth(0, 0, 0);
                }
                for (int k = y.count(1); k < 4; k++) {
                    x.thing(0);
                    y.thing(0);
                }
                x.shade(0, 12);
                y.shade(0, 12);
                e.due("digest", x.digest(), y.digest());
            }
        });
        term("no NIGHT was then.", "12 may be slept anew, none may be undone", () -> {
            LentShades x = Edges.full();
            e.due("12 were", x.sleep(), NO);
            x.read();
            e.due("count(2)", x.count(2), 0);
            e.due("count(3)", x.count(3), 0);
            e.due("undo", x.undo(), NO);
            for (int k = 1; k <= 12; k++) {
                e.due("sleep", x.sleep(), k);
            }
            e.due("sleep", x.sleep(), NO);
        });
    }
}
