/** Promises 9 to 23: nights and what they bring. */
public final class NightsTest {
    private static final int NONE = LentShades.NONE, BAD = LentShades.BAD, NO = LentShades.NO;
    private static final int FULL = LentShades.FULL;
    private static final Check CHECK = new Check("NightsTest");

    public static void main(String[] args) {
        shadesOfKinds();
        vainCloths();
        shadeRefuses();
        sleeping();
        undoing();
        soRed();
        resting();
        restingRefuses();
        moving();
        moveOrder();
        chests();
        chestKinds();
        mornings();
        lending();
        colours();
        leastColours();
        CHECK.end();
    }

    private static void due(String what, long got, long want) {
        CHECK.due(what, got, want);
    }

    private static void shadesOfKinds() {
        String rest = "cloth 0 0 3;thing 6;thing 12;touch 0 1 1;touch 0 4 2;touch 0 5 3;";
        LentShades plain = Check.house("cloth 0 3 12;" + rest);
        // 3 by 1, 6 by 2, 12 by 3: 51 by 6 of twelve.
        CHECK.shade(plain, 0, 1, 17, 24);
        CHECK.shade(plain, 1, 1, 1, 1);
        // Then 12 by 1 in place of 3, and the other one has what the first one had.
        CHECK.shade(plain, 0, 2, 5, 6);
        CHECK.shade(plain, 1, 2, 17, 24);
        LentShades fast = Check.house("cloth 1 3 12;" + rest);
        // Its own 12 by 4, too: 99 by 10 of twelve.
        CHECK.shade(fast, 0, 1, 33, 40);
        LentShades fastLoose = Check.house("cloth 1 0 12;" + rest);
        CHECK.shade(fastLoose, 0, 1, 3, 4);
        LentShades white = Check.house("cloth 2 3 12;" + rest);
        CHECK.shade(white, 0, 1, 17, 24);
        // Nothing is taken of it: the other one takes nothing, and stays.
        CHECK.shade(white, 1, 1, 1, 4);
        CHECK.shade(white, 1, 12, 1, 4);
        LentShades thirsty = Check.house("cloth 3 1 0;" + rest);
        // 0 by 2, 3 by 1, 6 by 4, 12 by 6: 99 by 13 of twelve.
        CHECK.shade(thirsty, 0, 1, 33, 52);
        CHECK.shade(thirsty, 1, 1, 0, 1);
        LentShades alone = Check.house("cloth 0 3 5;cloth 1 3 6;cloth 2 0 7;cloth 3 1 8;");
        CHECK.shade(alone, 0, 12, 5, 12);
        CHECK.shade(alone, 1, 12, 1, 2);
        CHECK.shade(alone, 2, 12, 7, 12);
        CHECK.shade(alone, 3, 12, 2, 3);
    }

    private static void vainCloths() {
        LentShades x = Check.house("cloth 4 3 1;cloth 0 0 3;cloth 2 0 12;cloth 1 0 5;thing 2;thing 4;"
                + "touch 0 1 1;touch 0 2 3;touch 0 4 1;touch 1 5 1;");
        CHECK.shade(x, 0, 1, 1, 4);
        x.touch(0, 5, 1);
        CHECK.shade(x, 0, 1, 1, 3);
        x.touch(0, 3, 1);
        CHECK.shade(x, 0, 1, 5, 12);
        x.touch(0, 4, 0);
        x.touch(0, 5, 0);
        x.touch(0, 3, 0);
        CHECK.shade(x, 0, 1, 1, 4);
        // Nothing is taken of a vain one; behind the first night the second has the thing's 4.
        CHECK.shade(x, 0, 2, 1, 3);
        x.touch(0, 1, 0);
        // Whites alone: it stays.
        CHECK.shade(x, 0, 12, 1, 12);
        LentShades two = Check.house("cloth 4 0 3;cloth 4 0 9;cloth 0 0 5;touch 0 1 3;touch 0 2 1;");
        CHECK.shade(two, 0, 1, 5, 12);
        CHECK.shade(two, 1, 1, 3, 4);
        CHECK.shade(two, 2, 1, 5, 12);
    }

    private static void shadeRefuses() {
        LentShades x = Check.house("cloth 0 0 6;thing 1;");
        CHECK.shade(x, 0, 0, 1, 2);
        due("9 no cloth", x.shade(1, 0), BAD);
        due("9 a thing", x.shade(4, 0), BAD);
        due("9 below", x.shade(-1, 0), BAD);
        due("9 n below", x.shade(0, -1), BAD);
        due("9 n above", x.shade(0, 13), BAD);
        CHECK.fraction("9 stays", x, 1, 2);
        CHECK.status(x, 5, 0, 0);
    }

    private static void sleeping() {
        LentShades x = Check.house("cloth 0 0 12;cloth 0 0 0;thing 6;touch 0 1 1;touch 0 4 1;");
        CHECK.shade(x, 0, 2, 3, 4);
        due("10 sleep", x.sleep(), 1);
        CHECK.shade(x, 0, 1, 3, 4);
        due("10 sleep", x.sleep(), 2);
        CHECK.shade(x, 0, 0, 3, 4);
        CHECK.shade(x, 1, 0, 1, 4);
        for (int k = 3; k <= 12; k++) {
            due("10 sleep", x.sleep(), k);
        }
        due("10 twelve were", x.sleep(), NO);
        due("10 count", x.count(2), 12);
        due("10 may be undone", x.count(3), 6);
        CHECK.status(x, 0, 1, 0);
        LentShades none = new LentShades();
        due("10 without cloths", none.sleep(), 1);
    }

    private static void undoing() {
        LentShades x = Check.house("cloth 0 0 12;cloth 0 0 0;touch 0 1 1;");
        due("11 none", x.undo(), NO);
        x.sleep();
        CHECK.shade(x, 0, 0, 0, 1);
        x.touch(0, 1, 2);
        due("11 undo", x.undo(), 1);
        due("11 nights", x.count(2), 0);
        CHECK.shade(x, 0, 0, 1, 1);
        due("11 hours are as put since", x.touch(0, 1, 1), 2);
        due("11 none", x.undo(), NO);
        for (int k = 0; k < 7; k++) {
            x.sleep();
        }
        due("11 six at most", x.count(3), 6);
        for (int k = 6; k >= 1; k--) {
            CHECK.shade(x, 0, 0, k % 2 == 0 ? 0 : 1, 1);
            due("11 undo", x.undo(), 1);
            due("11 nights", x.count(2), k);
        }
        due("11 the seventh", x.undo(), NO);
        due("11 slept again", x.sleep(), 2);
        CHECK.status(x, 0, 3, 0);
        LentShades y = Check.house("cloth 0 0 3;thing 6;touch 0 4 1;");
        y.sleep();
        y.thing(9);
        due("11 a thing keeps it", y.undo(), 1);
        due("11 the thing stays", y.count(1), 2);
    }

    private static void soRed() {
        LentShades x = Check.house("cloth 1 0 0;thing 12;touch 0 4 1;cloth 0 0 5;");
        // 0, 1/2, 3/4, 7/8, 15/16 of it.
        int[] due = {0, 1, 1, 1, 1, 1, 1, 2, 2, 2, 3, 4, NONE};
        for (int a = 0; a <= 12; a++) {
            due("12 soRed(0, " + a + ")", x.soRed(0, a), due[a]);
        }
        due("12 just so", x.soRed(1, 5), 0);
        due("12 never", x.soRed(1, 6), NONE);
        x.sleep();
        due("12 from now", x.soRed(0, 9), 1);
        due("12 a below", x.soRed(0, -1), BAD);
        due("12 a above", x.soRed(0, 13), BAD);
        due("12 no cloth", x.soRed(2, 1), BAD);
        due("12 below", x.soRed(-1, 1), BAD);
        CHECK.status(x, 4, 0, 0);
        LentShades late = Check.house("cloth 1 3 0;thing 12;touch 0 4 1;");
        // (4/5) to the 10th is above 1/12, to the 12th it is below: 1 - (4/5)^12 is so red.
        due("12 the twelfth night", late.soRed(0, 11), 12);
    }

    private static void resting() {
        LentShades x = Check.house("cloth 0 0 12;cloth 1 2 0;cloth 3 0 6;thing 12;thing 0;"
                + "touch 0 1 3;touch 1 2 1;touch 2 4 2;touch 0 5 1;");
        due("13 rest", x.rest(0), 1);
        CHECK.fraction("13 rest(0)", x, 12, 31);
        due("13 rest", x.rest(1), 1);
        CHECK.fraction("13 rest(1)", x, 16, 31);
        due("13 rest", x.rest(2), 1);
        CHECK.fraction("13 rest(2)", x, 28, 31);
        LentShades still = Check.house("cloth 0 0 7;cloth 2 0 4;cloth 0 0 1;touch 0 1 2;touch 1 2 3;");
        due("13 takes nothing", still.rest(0), 1);
        CHECK.fraction("13 what it has now", still, 7, 12);
        due("13 a white takes", still.rest(1), 1);
        // 7 by 2, 1 by 3: 17 by 5 of twelve.
        CHECK.fraction("13 a white's rest", still, 17, 60);
        LentShades slept = Check.house("cloth 0 0 7;cloth 0 0 4;touch 0 1 1;thing 12;touch 0 4 1;");
        slept.sleep();
        slept.touch(0, 1, 0);
        slept.touch(0, 4, 0);
        due("13 as now", slept.rest(0), 1);
        CHECK.fraction("13 as now", slept, 2, 3);
    }

    private static void restingRefuses() {
        LentShades loop = Check.house("cloth 0 0 7;cloth 0 0 7;touch 0 1 1;");
        loop.shade(0, 0);
        due("13 many would stay", loop.rest(0), NO);
        CHECK.fraction("13 THE FRACTION stays", loop, 7, 12);
        LentShades own = Check.house("cloth 0 0 7;cloth 1 0 7;thing 3;touch 0 4 1;");
        due("13 one that takes its own alone may have any", own.rest(0), NO);
        own.touch(1, 4, 1);
        due("13 just one", own.rest(0), 1);
        due("13 no cloth", own.rest(2), BAD);
        due("13 below", own.rest(-1), BAD);
        CHECK.status(own, 2, 1, 0);
        LentShades vain = Check.house("cloth 0 0 7;cloth 4 0 7;thing 3;touch 0 4 1;touch 1 4 1;");
        due("13 a vain one", vain.rest(0), NO);
        due("13 a vain one", vain.rest(1), NO);
        due("13 BAD ahead of NO", vain.rest(2), BAD);
        CHECK.status(vain, 1, 2, 0);
    }

    private static void moving() {
        LentShades x = Check.house("cloth 0 0 6;cloth 0 0 0;thing 12;thing 3;touch 0 5 1;");
        due("14 none is needed", x.moves(0, 3, 3, 1, 0), 0);
        due("14 no first one", x.moves(0, 3, 3, 1, 1), -5);
        due("14 no second one", x.moves(0, 3, 3, 1, 2), -5);
        // 12 by 3, 3 by 1: 39 by 4 of twelve.
        due("14 one", x.moves(0, 9, 10, 1, 0), 1);
        due("14 one", x.moves(0, 9, 10, 1, 1), 403);
        due("14 one", x.moves(0, 9, 10, 1, 2), -5);
        due("14 two", x.moves(0, 12, 12, 1, 0), 2);
        due("14 two", x.moves(0, 12, 12, 1, 1), 403);
        due("14 two", x.moves(0, 12, 12, 1, 2), 500);
        due("14 by nothing it stays", x.moves(0, 6, 6, 1, 1), 500);
        due("14 by nothing it stays", x.moves(1, 0, 0, 3, 0), 0);
        due("14 not by two", x.moves(1, 11, 11, 1, 0), NONE);
        due("14 not by two", x.moves(1, 11, 11, 1, 1), NONE);
        due("14 not by two", x.moves(1, 11, 11, 1, 2), NONE);
        // By way of the other cloth, in two nights.
        due("14 afar", x.moves(1, 3, 3, 2, 0), 1);
        due("14 afar", x.moves(1, 3, 3, 2, 1), 1503);
        LentShades far = Check.house("cloth 0 0 0;cloth 2 0 0;cloth 1 3 0;thing 7;touch 0 2 1;touch 0 1 3;");
        // By a touch of its own it has 21 by 4; by one of the third cloth's, 21 by 8.
        due("14 a pair without it", far.moves(0, 2, 3, 2, 0), 1);
        due("14 a pair without it", far.moves(0, 2, 3, 2, 1), 2403);
        due("14 its own pair", far.moves(0, 5, 6, 2, 1), 403);
        due("14 too far for a night", far.moves(0, 2, 3, 1, 0), NONE);
        due("14 21 by 6", far.moves(0, 3, 4, 1, 0), 2);
        due("14 21 by 6", far.moves(0, 3, 4, 1, 1), 203);
        due("14 21 by 6", far.moves(0, 3, 4, 1, 2), 403);
        long before = x.digest();
        int[][] wrong = {{2, 0, 1, 1, 0}, {-1, 0, 1, 1, 0}, {0, -1, 1, 1, 0}, {0, 5, 4, 1, 0}, {0, 0, 13, 1, 0},
            {0, 0, 1, 0, 0}, {0, 0, 1, 4, 0}, {0, 0, 1, 1, -1}, {0, 0, 1, 1, 3}};
        for (int[] w : wrong) {
            due("14 wrong moves", x.moves(w[0], w[1], w[2], w[3], w[4]), -10);
        }
        CHECK.status(x, wrong.length, 0, 0);
        due("14 all stays", x.digest(), before);
    }

    private static void moveOrder() {
        LentShades x = Check.house("cloth 0 0 0;cloth 0 0 12;cloth 0 0 12;thing 12;touch 1 4 1;touch 2 4 1;");
        due("14 the lesser pair", x.moves(0, 12, 12, 1, 1), 103);
        due("14 the second", x.moves(2, 4, 4, 1, 2), NONE);
        LentShades y = Check.house("cloth 0 0 6;cloth 0 0 0;thing 12;thing 12;touch 0 1 1;");
        // 0 by 1, 12 by 3 or 6; without the other cloth 12 alone.
        due("14 without what it touches it stays", y.moves(0, 6, 9, 1, 1), 100);
        due("14 two", y.moves(0, 12, 12, 1, 0), 2);
        due("14 the first of two", y.moves(0, 12, 12, 1, 1), 100);
        due("14 the second of two", y.moves(0, 12, 12, 1, 2), 403);
        due("14 two things", y.moves(0, 10, 11, 1, 1), 403);
        due("14 two things", y.moves(0, 10, 11, 1, 2), 503);
        LentShades z = Check.house("cloth 1 0 11;cloth 1 1 6;thing 8;touch 0 1 1;touch 0 4 3;");
        // Behind three nights some 7.96, by 0 hours with the other cloth 8.05, by 3 hours 8.11.
        due("14 0 ahead of 3", z.moves(0, 8, 10, 3, 1), 100);
        z.touch(0, 1, 3);
        due("14 by 3, too", z.moves(0, 8, 10, 3, 0), 0);
    }

    private static void chests() {
        LentShades x = new LentShades();
        due("16 the empty order", x.chest(NONE), 1);
        due("16 none lies there", x.chest(0), -5);
        x.cloth(0, 0, 12);
        due("15 no cloth", x.bound(1, 0, 1), BAD);
        due("16 one", x.chest(NONE), 1);
        due("16 one", x.chest(0), 0);
        due("16 one", x.chest(1), -5);
        x.cloth(0, 0, 0);
        x.cloth(0, 0, 6);
        due("16 all", x.chest(NONE), 6);
        due("15 bound", x.bound(1, 9, 9), 1);
        // Both others beside it: 12 and 6.
        due("16 in the midst", x.chest(NONE), 2);
        due("16 first", x.chest(0), 0);
        due("16 second", x.chest(1), 1);
        due("16 third", x.chest(2), 2);
        due("15 anew", x.bound(1, 6, 6), 1);
        due("16 at an end", x.chest(NONE), 2);
        due("16 first", x.chest(0), 0);
        due("16 second", x.chest(1), 2);
        due("16 third", x.chest(2), 1);
        x.bound(1, 7, 8);
        due("16 no order", x.chest(NONE), 0);
        due("16 no order", x.chest(0), -5);
        due("16 BAD", x.chest(-2), -10);
        due("16 far", x.chest(Integer.MAX_VALUE), -5);
        int[][] wrong = {{3, 0, 1}, {-1, 0, 1}, {0, -1, 1}, {0, 5, 4}, {0, 0, 13}};
        for (int[] w : wrong) {
            due("15 wrong bound", x.bound(w[0], w[1], w[2]), BAD);
        }
        CHECK.status(x, 7, 0, 0);
    }

    private static void chestKinds() {
        LentShades x = Check.house("cloth 1 2 0;cloth 2 0 12;cloth 4 0 6;thing 12;touch 0 4 3;touch 0 1 1;");
        // Of whites and vains nothing is taken, nor of things in a chest: the first stays.
        x.bound(0, 0, 0);
        due("16 all", x.chest(NONE), 6);
        x.bound(2, 0, 0);
        // The vain one lies by the first.
        due("16 by the first", x.chest(NONE), 4);
        due("16 first", x.chest(0), 0);
        due("16 second", x.chest(1), 2);
        LentShades four = Check.house("cloth 0 0 12;cloth 0 0 0;cloth 0 0 6;cloth 0 0 3;touch 3 1 1;");
        four.bound(3, 12, 12);
        due("16 at an end, by the first", four.chest(NONE), 4);
        int[] order = {1, 2, 0, 3};
        for (int i = 0; i < 4; i++) {
            due("16 the first order", four.chest(i), order[i]);
        }
        LentShades fast = Check.house("cloth 1 2 0;cloth 0 0 12;");
        // Its own by 3, the other one by 3.
        fast.bound(0, 6, 6);
        due("16 3 hours", fast.chest(NONE), 2);
        fast.sleep();
        fast.bound(0, 0, 0);
        due("16 from shades now", fast.chest(NONE), 0);
    }

    private static void mornings() {
        LentShades x = Check.house("cloth 0 0 12;cloth 2 0 6;cloth 4 0 6;cloth 3 0 0;thing 6;thing 9;");
        // Of 12, 0, 6, 9 (bits 1, 8, 16, 32): 6 by 12 come of 16, 9, 25.
        due("17 sets", x.morning(1, 2, NONE), 3);
        due("17 the 0th", x.morning(1, 2, 0), 9);
        due("17 the 1st", x.morning(1, 2, 1), 16);
        due("17 the 2nd", x.morning(1, 2, 2), 25);
        due("17 the 3rd", x.morning(1, 2, 3), -5);
        due("17 not reduced", x.morning(49, 98, NONE), 3);
        due("18 in all", x.surely(1, 2), 0);
        due("17 sets", x.morning(3, 4, NONE), 3);
        due("18 in all", x.surely(3, 4), 0);
        // 27 by 4 of twelve comes of all four alone.
        due("17 all", x.morning(9, 16, NONE), 1);
        due("18 all", x.surely(9, 16), 57);
        due("17 red", x.morning(1, 1, 0), 1);
        due("17 none is no set", x.morning(0, 1, NONE), 1);
        due("17 white", x.morning(0, 1, 0), 8);
        due("17 no set", x.morning(1, 99, NONE), 0);
        due("17 no set", x.morning(1, 99, 0), -5);
        due("18 no set", x.surely(1, 99), NONE);
        int[][] wrong = {{-1, 2, 0}, {3, 2, 0}, {0, 0, 0}, {0, 100, 0}, {0, -1, 0}, {0, 1, -2}};
        for (int[] w : wrong) {
            due("17 wrong morning", x.morning(w[0], w[1], w[2]), -10);
        }
        for (int k = 0; k < 5; k++) {
            due("18 wrong surely", x.surely(wrong[k][0], wrong[k][1]), BAD);
        }
        CHECK.status(x, 11, 0, 0);
        LentShades slept = Check.house("cloth 0 0 12;cloth 1 0 0;touch 0 1 1;");
        slept.sleep();
        due("17 from shades now", slept.morning(1, 4, NONE), 1);
        due("17 from shades now", slept.morning(1, 4, 0), 3);
        due("18 from shades now", slept.surely(1, 4), 3);
        due("17 none there", new LentShades().morning(0, 1, NONE), 0);
    }

    private static void lending() {
        LentShades x = Check.house("cloth 1 0 0;thing 12;touch 0 4 1;cloth 0 0 6;");
        due("21 none", x.lent(0), 0);
        due("19 who", x.borrower(0, 0, 1, 6), 0);
        due("21 not red enough", x.lent(0), 0);
        due("19 who", x.borrower(0, 1, 2, 6), 1);
        due("19 who", x.borrower(0, 3, 3, 10), 2);
        due("19 who", x.borrower(0, 2, 4, 9), 3);
        due("19 who", x.borrower(1, 0, 12, 6), 4);
        due("21 how many", x.lent(0), 3);
        due("21 who", x.lent(1), 22);
        due("19 who", x.borrower(1, 12, 12, 0), 5);
        due("21 the least of like ones", x.lent(1), 22);
        due("19 FULL", x.borrower(0, 0, 0, 0), FULL);
        int[][] wrong = {{2, 0, 0, 0}, {-1, 0, 0, 0}, {0, -1, 0, 0}, {0, 2, 1, 0}, {0, 0, 13, 0}, {0, 0, 0, -1},
            {0, 0, 0, 13}};
        for (int[] w : wrong) {
            due("19 wrong borrower", x.borrower(w[0], w[1], w[2], w[3]), BAD);
        }
        due("21 what", x.lent(-1), BAD);
        due("21 what", x.lent(2), BAD);
        CHECK.status(x, 9, 0, 1);
        x.sleep();
        due("21 from now, the last night of one is the first of another", x.lent(1), 21);
        due("20 refuse", x.refuse(), 6);
        due("20 none are left", x.refuse(), 0);
        due("20 count", x.count(5), 0);
        due("21 none", x.lent(1), 0);
        due("19 anew", x.borrower(0, 0, 12, 0), 0);
        LentShades last = Check.house("cloth 1 3 12;thing 0;touch 0 4 1;");
        // (4/5) to the 11th is above 1/12, to the 12th it is below.
        last.borrower(0, 11, 11, 1);
        last.borrower(0, 12, 12, 1);
        due("21 the twelfth night counts", last.lent(1), 1);
        due("12 so red from the end", last.soRed(0, 1), 0);
    }

    private static void colours() {
        LentShades x = Check.house("cloth 0 0 6;cloth 0 0 6;cloth 1 0 0;thing 6;thing 3;thing 3;touch 2 4 1;");
        due("22 colours", x.colours(), 3);
        x.sleep();
        // The third cloth has 3 parts now, as two things have.
        due("22 now", x.colours(), 2);
        x.sleep();
        due("22 now", x.colours(), 3);
        x.colour(0, 1);
        due("22 with a colour put", x.colours(), 4);
    }

    private static void leastColours() {
        LentShades x = Check.house("cloth 1 0 0;thing 2;thing 6;touch 0 4 1;touch 0 5 1;");
        // (0 + v + 6) by 3 of twelve.
        due("23 least", x.least(0, 0, 1, 4), 6);
        due("23 least", x.least(0, 0, 1, 2), 0);
        due("23 least", x.least(0, 0, 1, 6), 12);
        due("23 none", x.least(0, 0, 1, 7), NONE);
        due("23 the other one", x.least(1, 0, 1, 4), 10);
        due("23 later", x.least(0, 0, 12, 7), 9);
        due("23 now", x.least(0, 0, 0, 0), 0);
        due("23 now", x.least(0, 0, 0, 1), NONE);
        due("23 it keeps its own", x.colour(0, 2), 2);
        int[][] wrong = {{2, 0, 1, 4}, {-1, 0, 1, 4}, {0, 1, 1, 4}, {0, -1, 1, 4}, {0, 0, -1, 4}, {0, 0, 13, 4},
            {0, 0, 1, -1}, {0, 0, 1, 13}};
        for (int[] w : wrong) {
            due("23 wrong least", x.least(w[0], w[1], w[2], w[3]), BAD);
        }
        CHECK.status(x, wrong.length, 0, 0);
    }
}
