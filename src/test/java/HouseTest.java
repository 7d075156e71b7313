/** Promises 1 to 8: a house, by calls and by a text. */
public final class HouseTest {
    private static final int BAD = LentShades.BAD, FULL = LentShades.FULL;
    private static final Check CHECK = new Check("HouseTest");

    public static void main(String[] args) {
        newObject();
        cloths();
        things();
        touching();
        colours();
        typing();
        readsHouses();
        findsFaults();
        readTakesThePlaceOfAll();
        CHECK.end();
    }

    private static void due(String what, long got, long want) {
        CHECK.due(what, got, want);
    }

    private static void newObject() {
        LentShades x = new LentShades();
        for (int what = 0; what <= 5; what++) {
            due("1 count(" + what + ")", x.count(what), 0);
        }
        CHECK.fraction("1 new", x, 0, 1);
        due("1 limb(1, 1)", x.limb(1, 1), -1);
        due("1 colours", x.colours(), 0);
        due("1 from(0)", x.from(0), LentShades.NO);
        due("1 from(1)", x.from(1), LentShades.NO);
        due("1 undo", x.undo(), LentShades.NO);
        CHECK.status(x, 0, 3, 0);
        long h = 673;
        for (int v : new int[] {0, 0, 0, 0, 0, 0, 0, 0, 1, 1}) {
            h = 31 * h + v;
        }
        due("1 digest", x.digest(), h);
    }

    private static void cloths() {
        LentShades x = new LentShades();
        int[][] wrong = {{-1, 0, 0}, {5, 0, 0}, {0, -1, 0}, {0, 4, 0}, {0, 0, -1}, {0, 0, 13}};
        for (int[] w : wrong) {
            due("2 wrong cloth", x.cloth(w[0], w[1], w[2]), BAD);
        }
        due("2 count", x.count(0), 0);
        int[][] right = {{0, 0, 0}, {4, 3, 12}, {3, 1, 6}, {2, 2, 1}};
        for (int k = 0; k < 4; k++) {
            due("2 cloth", x.cloth(right[k][0], right[k][1], right[k][2]), k);
            due("2 count", x.count(0), k + 1);
        }
        CHECK.shade(x, 0, 0, 0, 1);
        CHECK.shade(x, 1, 0, 1, 1);
        CHECK.shade(x, 2, 0, 1, 2);
        CHECK.shade(x, 3, 0, 1, 12);
        due("2 fifth", x.cloth(0, 0, 0), FULL);
        due("2 BAD ahead of FULL", x.cloth(5, 0, 0), BAD);
        CHECK.status(x, 7, 0, 1);
        LentShades y = Check.house("cloth 0 0 12;thing 0;touch 0 4 1;");
        y.sleep();
        due("2 may be undone", y.count(3), 1);
        y.cloth(9, 0, 0);
        due("2 a refused one leaves it", y.count(3), 1);
        y.cloth(0, 0, 5);
        due("2 UNDO is of none", y.count(3), 0);
        due("2 the night stays", y.count(2), 1);
        due("2 undo", y.undo(), LentShades.NO);
        CHECK.shade(y, 1, 0, 5, 12);
    }

    private static void things() {
        LentShades x = new LentShades();
        due("3 below", x.thing(-1), BAD);
        due("3 above", x.thing(13), BAD);
        for (int k = 0; k < 4; k++) {
            due("3 thing", x.thing(4 * k), k);
        }
        due("3 fifth", x.thing(0), FULL);
        due("3 BAD ahead of FULL", x.thing(13), BAD);
        due("3 count", x.count(1), 4);
        for (int k = 0; k < 4; k++) {
            due("3 its colour", x.colour(k, 1), 4 * k);
        }
        CHECK.status(x, 3, 0, 1);
    }

    private static void touching() {
        LentShades x = Check.house("cloth 0 0 0;cloth 0 0 12;thing 6;thing 3;");
        int[][] wrong = {{0, 0, 1}, {4, 5, 1}, {4, 4, 1}, {-1, 0, 1}, {0, -1, 1}, {0, 2, 1}, {3, 0, 1},
            {0, 6, 1}, {7, 0, 1}, {0, 8, 1}, {8, 0, 1}, {0, 1, -1}, {0, 1, 4}, {0, Integer.MAX_VALUE, 1},
            {Integer.MIN_VALUE, 0, 1}};
        long before = x.digest();
        for (int[] w : wrong) {
            due("4 wrong touch", x.touch(w[0], w[1], w[2]), BAD);
        }
        due("4 all stays", x.digest(), before);
        CHECK.status(x, wrong.length, 0, 0);
        due("4 first", x.touch(0, 1, 3), 0);
        due("4 alike both ways", x.touch(1, 0, 2), 3);
        due("4 back", x.touch(0, 1, 0), 2);
        due("4 a thing ahead", x.touch(5, 1, 1), 0);
        due("4 a thing behind", x.touch(1, 5, 3), 1);
        due("4 another pair", x.touch(0, 5, 1), 0);
        CHECK.shade(x, 1, 1, 1, 4);
    }

    private static void colours() {
        LentShades x = Check.house("cloth 0 0 0;thing 6;thing 3;touch 0 4 1;");
        due("5 no thing", x.colour(2, 0), BAD);
        due("5 below", x.colour(-1, 0), BAD);
        due("5 its number among numbers", x.colour(4, 0), BAD);
        due("5 v below", x.colour(0, -1), BAD);
        due("5 v above", x.colour(0, 13), BAD);
        due("5 was", x.colour(0, 12), 6);
        due("5 was", x.colour(0, 0), 12);
        due("5 the other stays", x.colour(1, 4), 3);
        x.colour(0, 9);
        CHECK.shade(x, 0, 1, 3, 4);
        CHECK.status(x, 5, 0, 0);
    }

    private static void typing() {
        LentShades x = new LentShades();
        due("6 n 0", x.type(65, 0), BAD);
        due("6 n 9", x.type(65, 9), BAD);
        due("6 n below", x.type(65, -1), BAD);
        // "thing 7;" stands in the eight bytes, and its end in the lowest two.
        long thing = 0x7468696E6720373BL;
        due("6 eight", x.type(thing, 8), 8);
        due("6 read", x.read(), 1);
        due("6 highest first", x.colour(0, 0), 7);
        due("7 clear", x.clear(), 8);
        due("7 empty", x.clear(), 0);
        due("6 six", x.type(thing >> 16, 6), 6);
        due("6 the lowest two", x.type(thing, 2), 8);
        due("6 count", x.count(4), 8);
        due("6 read", x.read(), 1);
        x.clear();
        for (int k = 1; k <= 24; k++) {
            due("6 more", x.type(-1L, 8), 8 * k);
        }
        due("6 to 199", x.type(0, 7), 199);
        due("6 beyond 200", x.type(0, 2), FULL);
        due("6 BAD ahead of FULL", x.type(0, 9), BAD);
        due("6 none of it came", x.count(4), 199);
        due("6 200", x.type(0, 1), 200);
        due("6 full", x.type(0, 1), FULL);
        CHECK.status(x, 4, 0, 2);
        due("6 fault at the first", x.read(), -10);
        due("7 clear", x.clear(), 200);
    }

    private static void reads(String text, int want) {
        LentShades x = new LentShades();
        due("8 length of '" + text + "'", Check.type(x, text), text.length());
        due("8 read '" + text + "'", x.read(), want);
        CHECK.status(x, 0, 0, 0);
        due("8 THE TEXT stays", x.count(4), text.length());
        if (want < 0) {
            due("8 no cloths", x.count(0), 0);
            due("8 no things", x.count(1), 0);
        }
    }

    private static void readsHouses() {
        reads("", 0);
        reads("    ", 0);
        reads("thing 0;", 1);
        reads("  thing   12  ;  ", 1);
        reads("thing1;thing01;thing 00;", 3);
        reads("cloth4 3 12;", 1);
        reads("cloth 0 0 0;cloth 0 0 0;cloth 0 0 0;cloth 0 0 0;thing 1;thing 2;thing 3;thing 4;touch 7 3 3;", 9);
        reads("cloth 0 0 0;cloth 0 0 0;touch 0 1 1;touch 1 0 2;", 4);
        LentShades x = Check.house("cloth 0 0 0;cloth 1 2 12;thing 3;thing 9;touch 1 0 2;touch 5 0 3;touch 1 4 1;");
        due("8 hours", x.touch(0, 1, 0), 2);
        due("8 hours", x.touch(0, 5, 0), 3);
        due("8 hours", x.touch(4, 1, 0), 1);
        due("8 hours of none", x.touch(4, 0, 0), 0);
        due("8 colour", x.colour(1, 0), 9);
        CHECK.shade(x, 1, 0, 1, 1);
    }

    private static void findsFaults() {
        reads("x", -10);
        reads("cloths 0 0 0;", -10);
        reads("Cloth 0 0 0;", -10);
        reads("clotha 0 0 0;", -10);
        reads("clothz 0 0 0;", -10);
        reads("thing{1;", -15);
        reads("thing`1;", -15);
        reads("thing /1;", -16);
        reads("thing :;", -16);
        reads("thing 9;thing 09;thing 9:", -34);
        reads("1", -10);
        reads(";", -10);
        reads("  clot 0;", -12);
        reads("cloth", -15);
        reads("cloth  ", -17);
        reads("cloth ;", -16);
        reads("cloth cloth", -16);
        reads("cloth thing 1;", -16);
        reads("touch cloth 0 0 0;", -16);
        reads("cloth 5", -16);
        reads("cloth 4 4", -18);
        reads("cloth 4 3 13;", -20);
        reads("cloth 4 3 012;", -20);
        reads("cloth 000 3 1;", -16);
        reads("cloth 4 3 12", -22);
        reads("cloth 4 3 12 1", -23);
        reads("cloth 4 3 12x;", -22);
        reads("cloth 4 3 12-", -22);
        reads("thing 13;", -16);
        reads("thing 1;;", -18);
        reads("thing 1;thing 1;thing 1;thing 1;thing 99", -42);
        reads("cloth 0 0 0;cloth 0 0 0;cloth 0 0 0;cloth 0 0 0;cloth", -58);
        reads("thing 1;touch 0", -24);
        reads("thing 1;touch 4 4", -26);
        reads("thing 1;touch 5", -24);
        reads("thing 1;thing 1;touch 4 5", -34);
        reads("thing 1;thing 1;touch 5 4", -34);
        reads("cloth 0 0 0;touch 0 0", -30);
        reads("cloth 0 0 0;touch 0 1", -30);
        reads("cloth 0 0 0;touch 8 0", -28);
        reads("cloth 0 0 0;thing 1;touch 4 0 4;", -40);
        reads("cloth 0 0 0;thing 1;touch 4 0 3", -41);
        reads("cloth\t0 0 0;", -15);
        reads("thing 1;\u00e9", -18);
        LentShades x = Check.house("cloth 0 0 6;thing 2;touch 0 4 1;");
        x.sleep();
        long before = x.digest();
        Check.type(x, "cloth 0 0 0;thing 1;touch 0 4 4;");
        due("8 fault", x.read(), -40);
        x.clear();
        due("8 all stays", x.digest(), before);
        CHECK.shade(x, 0, 0, 1, 6);
    }

    private static void readTakesThePlaceOfAll() {
        LentShades x = Check.house("cloth 4 3 6;cloth 0 0 3;thing 2;touch 0 4 1;touch 0 1 2;");
        x.bound(0, 3, 4);
        x.borrower(1, 0, 2, 0);
        x.borrower(0, 0, 2, 0);
        x.image(1);
        x.sleep();
        x.sleep();
        Check.type(x, "cloth 1 2 9;");
        due("8 read", x.read(), 1);
        due("8 cloths", x.count(0), 1);
        due("8 things", x.count(1), 0);
        due("8 no night was", x.count(2), 0);
        due("8 none may be undone", x.count(3), 0);
        due("8 undo", x.undo(), LentShades.NO);
        CHECK.shade(x, 0, 0, 3, 4);
        // The document takes nothing from the borrowers; a cloth that is not there serves none.
        due("8 borrowers stay", x.count(5), 2);
        due("8 lent", x.lent(1), 2);
        due("8 new cloth", x.cloth(0, 0, 0), 1);
        due("8 new thing", x.thing(5), 0);
        due("8 hours are 0", x.touch(0, 4, 0), 0);
        due("8 hours are 0", x.touch(0, 1, 0), 0);
        x.shade(1, 0);
        long h = 673;
        int[] all = {2, 1, 0, 0, 12, 2, 1, 2, 0, 12, 0, 0, 0, 0, 0, 0, 0, 0, 0, 0, 0, 12, 0, 0, 0, 0, 0, 0, 0, 0, 5,
            1, 0, 2, 0, 0, 0, 2, 0, 0, 0, 1, 1};
        for (int v : all) {
            h = 31 * h + v;
        }
        due("8 and 30, bounds are new", x.digest(), h);
        due("8 images stay", x.from(1), 1);
        due("8 as kept", x.count(0), 2);
    }
}
