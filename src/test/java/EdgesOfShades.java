import java.math.BigInteger;

/** The second part of 'Terms', THE FRACTION, and what is refused. */
final class EdgesOfShades {
    private static final int NONE = Edges.NONE, BAD = Edges.BAD, NO = Edges.NO, FULL = Edges.FULL;

    private final Edges e;

    private EdgesOfShades(Edges e) {
        this.e = e;
    }

    static void tell(Edges e) {
        EdgesOfShades t = new EdgesOfShades(e);
        t.nights();
        t.soRed();
        t.rest();
        t.fewestMoves();
        t.firstMoves();
        t.chest();
        t.morning();
        t.lent();
        t.coloursAndLeast();
        t.undoAndImages();
        t.status();
        t.fraction();
        t.lowestTerms();
        t.amidLongOnes();
        t.longest();
        t.refused();
    }

    private void term(String words, String edge, Runnable test) {
        e.sentence("Terms", words, edge, test);
    }

    private static LentShades house(String text) {
        return Edges.house(text);
    }

    /** Half of what is missing to red comes each night: behind n of them 1 - 1 by 2 to the n. */
    private static LentShades halves() {
        return house("cloth 1 0 0;thing 12;touch 0 4 1;");
    }

    private void nights() {
        term("SHADES behind n NIGHTS (0 .. 12) from how it is now: fractions of 1.", "0 is now, 12 are taken, 13 and -1 are none", () -> {
            LentShades x = halves();
            for (int slept = 0; slept <= 12; slept += 4) {
                for (int n = 0; n <= 12; n++) {
                    long below = 1L << n + slept;
                    e.shade(x, 0, n, below - 1, below);
                }
                e.due("13 NIGHTS", x.shade(0, 13), BAD);
                e.due("-1 NIGHTS", x.shade(0, -1), BAD);
                for (int k = 0; k < 4 && slept < 12; k++) {
                    x.sleep();
                }
            }
        });
        term("A NIGHT (sleep) makes them those that are (12 in all at most).", "the twelfth, a thirteenth, one behind an undone one", () -> {
            LentShades x = halves();
            for (int k = 1; k <= 12; k++) {
                e.due("sleep", x.sleep(), k);
                e.shade(x, 0, 0, (1L << k) - 1, 1L << k);
            }
            e.due("a thirteenth", x.sleep(), NO);
            e.shade(x, 0, 0, (1L << 12) - 1, 1L << 12);
            e.due("undo", x.undo(), 1);
            e.due("the twelfth anew", x.sleep(), 12);
            e.due("a thirteenth", x.sleep(), NO);
            // Those ahead of a cloth that came later count, too.
            LentShades y = halves();
            for (int k = 1; k <= 11; k++) {
                y.sleep();
            }
            y.cloth(0, 0, 0);
            e.due("the twelfth", y.sleep(), 12);
            e.due("a thirteenth", y.sleep(), NO);
        });
    }

    private void soRed() {
        term("SO RED: the first NIGHT (0 .. 12) behind which a CLOTH has a parts of twelve at least;", "just so at 0, at 12", () -> {
            LentShades x = house("cloth 0 0 5;cloth 1 0 0;thing 12;touch 1 4 1;");
            e.due("now, just so", x.soRed(0, 5), 0);
            e.due("a part more", x.soRed(0, 6), NONE);
            e.due("0 parts", x.soRed(0, 0), 0);
            int[] due = {0, 1, 1, 1, 1, 1, 1, 2, 2, 2, 3, 4, NONE};
            for (int a = 0; a <= 12; a++) {
                e.due("halves, " + a + " parts", x.soRed(1, a), due[a]);
            }
            // Behind one night just 6 parts, behind two just 9.
            e.due("behind one, just so", x.soRed(1, 6), 1);
            e.due("behind two, just so", x.soRed(1, 9), 2);
            // 4 by 5 to the 11th is above 1 by 12, to the 12th it is below.
            LentShades late = house("cloth 1 3 0;thing 12;touch 0 4 1;");
            e.due("behind the twelfth", late.soRed(0, 11), 12);
            late.sleep();
            e.due("from how it is now", late.soRed(0, 11), 11);
            LentShades falls = house("cloth 0 0 12;cloth 0 0 0;touch 0 1 1;");
            e.due("the first, though it is lost again", falls.soRed(1, 12), 1);
        });
        term("at least; none.", "so red behind a thirteenth alone", () -> {
            LentShades x = house("cloth 1 1 4;cloth 1 1 6;thing 9;touch 0 4 1;touch 0 1 2;");
            e.due("soRed", x.soRed(0, 8), NONE);
            x.sleep();
            e.due("soRed", x.soRed(0, 8), 12);
        });
    }

    private void rest() {
        term("REST: SHADES that stay as they are in a NIGHT, if there are just ones such", "one, a chain, a ring with a thing", () -> {
            LentShades x = house("cloth 0 0 0;thing 8;touch 0 4 3;");
            e.due("rest", x.rest(0), 1);
            e.fraction("rest", x, 8, 12);
            LentShades y = house("cloth 1 3 0;cloth 0 0 0;cloth 3 2 0;thing 0;thing 12;touch 0 1 1;touch 1 2 1;touch 0 4 1;touch 2 5 1;");
            // s0 = s1 by 2, s2 = (s1 + 24) by 3, s1 the mean of both: 48 by 7 of twelve.
            e.due("rest", y.rest(1), 1);
            e.fraction("rest", y, 48, 7 * 12);
            e.due("rest", y.rest(0), 1);
            e.fraction("rest", y, 24, 7 * 12);
            e.due("rest", y.rest(2), 1);
            e.fraction("rest", y, 72, 7 * 12);
            LentShades z = house("cloth 0 0 5;cloth 0 0 9;thing 0;touch 0 1 3;touch 0 4 1;");
            e.due("rest at 0", z.rest(1), 1);
            e.fraction("rest at 0", z, 0, 12);
            LentShades t = house("cloth 2 0 5;thing 12;touch 0 4 1;");
            e.due("rest at 1", t.rest(0), 1);
            e.fraction("rest at 1", t, 12, 12);
        });
        term("SHADES that stay as they are in a NIGHT, if there are just ones such", "four CLOTHS that take of one another; a lesser HOUSE behind it", () -> {
            String text = "cloth 0 0 1;cloth 1 2 2;cloth 3 1 3;cloth 2 0 4;thing 11;thing 5;thing 0;";
            String lesser = "cloth 0 0 7;cloth 1 3 5;thing 4;touch 1 4 1;";
            LentShades x = house(text);
            Oracle y = told(text);
            int[] hours = {3, 1, 2, 1, 0, 2, 2, 3, 1, 1, 3, 0, 1, 2, 3, 1, 2, 0};
            int k = 0;
            for (int i = 0; i < 4; i++) {
                for (int n = i + 1; n < 7; n++) {
                    e.due("touch", x.touch(i, n, hours[k]), y.touch(i, n, hours[k]));
                    k++;
                }
            }
            for (int i = 0; i < 4; i++) {
                e.due("rest", x.rest(i), 1);
                y.rest(i);
                e.due("rest(" + i + ")", x.digest(), y.digest());
            }
            Edges.type(x, lesser);
            e.due("read", x.read(), 4);
            e.due("rest", x.rest(1), 1);
            e.fraction("rest of a lesser HOUSE", x, 4, 12);
            e.due("rest", x.rest(0), 1);
            e.fraction("rest of a lesser HOUSE", x, 7, 12);
            // The third one, of its own alone, is no more.
            LentShades z = house("cloth 0 0 1;cloth 0 0 2;cloth 1 0 3;");
            e.due("not just one", z.rest(0), NO);
            Edges.type(z, lesser);
            z.read();
            e.due("rest", z.rest(1), 1);
            e.fraction("rest of a lesser HOUSE", z, 4, 12);
        });
        term("(of CLOTHS that take nothing: what they have now)", "alone, by a WHITE, behind a NIGHT; another one takes of it", () -> {
            LentShades x = house("cloth 0 3 7;cloth 2 0 4;cloth 0 0 1;touch 0 1 2;touch 1 2 3;");
            e.due("rest", x.rest(0), 1);
            e.fraction("a PLAIN by a WHITE", x, 7, 12);
            e.due("rest", x.rest(2), 1);
            e.fraction("a PLAIN by a WHITE", x, 1, 12);
            e.due("rest", x.rest(1), 1);
            e.fraction("the WHITE takes of both", x, 2 * 7 + 3, 5 * 12);
            LentShades y = house("cloth 0 0 12;cloth 0 0 2;touch 0 1 1;");
            y.sleep();
            y.touch(0, 1, 0);
            e.due("rest", y.rest(0), 1);
            e.fraction("now", y, 2, 12);
        });
        term("none (not just one, or some CLOTH is VAIN).", "a ring alone, its own alone, a VAIN afar", () -> {
            String thing = "thing 3;touch 0 4 1;";
            none("cloth 0 0 7;cloth 0 0 7;touch 0 1 1;");
            none("cloth 0 0 7;cloth 0 0 7;cloth 0 0 7;touch 0 1 1;touch 1 2 2;touch 0 2 3;");
            none("cloth 0 0 7;cloth 1 0 7;" + thing);
            none("cloth 0 0 7;cloth 3 3 7;" + thing);
            none("cloth 0 0 7;cloth 0 0 7;cloth 0 0 7;touch 1 2 1;" + thing);
            none("cloth 0 0 7;cloth 4 0 7;" + thing);
            none("cloth 0 0 7;cloth 0 0 7;cloth 0 0 7;cloth 4 0 7;" + thing);
            none("cloth 4 0 7;thing 3;touch 0 4 1;");
            none("cloth 4 0 7;");
            LentShades x = house("cloth 0 0 7;cloth 3 3 7;thing 3;touch 1 4 1;");
            e.due("a thing for 1 HOUR is enough", x.rest(1), 1);
            e.fraction("rest", x, 3, 12);
        });
    }

    private static Oracle told(String text) {
        Oracle y = new Oracle();
        for (int k = 0; k < text.length(); k++) {
            y.type(text.charAt(k), 1);
        }
        y.read();
        y.clear();
        return y;
    }

    private void none(String text) {
        LentShades x = house(text);
        x.shade(0, 0);
        for (int i = 0; i < x.count(0); i++) {
            int cloth = i;
            e.refused("rest(" + i + ") of " + text, () -> house(text), y -> y.rest(cloth), NO, Edges.NOES);
        }
    }

    private void moves(LentShades x, int[] asked, int fewest, int first, int second) {
        int[] due = {fewest, first, second};
        for (int what = 0; what <= 2; what++) {
            e.due("moves(" + asked[0] + ", " + asked[1] + ", " + asked[2] + ", " + asked[3] + ", " + what + ")",
                    x.moves(asked[0], asked[1], asked[2], asked[3], what), due[what]);
        }
    }

    private static int[] of(int cloth, int a, int b, int n) {
        return new int[] {cloth, a, b, n};
    }

    private void fewestMoves() {
        term("MOVES: a CLOTH is to have from a to b parts of twelve behind n NIGHTS (1 .. 3):", "just a, just b; 1, 2, 3 NIGHTS", () -> {
            LentShades x = house("cloth 0 0 6;thing 5;touch 0 4 1;");
            moves(x, of(0, 5, 5, 1), 0, -5, -5);
            moves(x, of(0, 5, 12, 2), 0, -5, -5);
            moves(x, of(0, 0, 5, 3), 0, -5, -5);
            moves(x, of(0, 6, 12, 1), 1, 400, -5);
            moves(x, of(0, 0, 4, 1), NONE, NONE, NONE);
            // Behind 1, 2, 3 nights 6, 9, 10 and a half.
            LentShades y = halves();
            moves(y, of(0, 6, 6, 1), 0, -5, -5);
            moves(y, of(0, 9, 9, 2), 0, -5, -5);
            moves(y, of(0, 10, 11, 3), 0, -5, -5);
            moves(y, of(0, 10, 10, 3), NONE, NONE, NONE);
            moves(y, of(0, 0, 0, 3), 1, 400, -5);
            // By 3 hours 9, then 11 and a quarter.
            moves(y, of(0, 9, 9, 1), 1, 403, -5);
            moves(y, of(0, 11, 12, 2), 1, 403, -5);
        });
        term("a MOVE puts HOURS of two NUMBERS (one a CLOTH) to 0 or 3, ahead of all:", "to 0, to 3, never to 1 or 2; it stays for all NIGHTS", () -> {
            LentShades x = house("cloth 1 0 0;thing 12;touch 0 4 2;");
            moves(x, of(0, 8, 8, 1), 0, -5, -5);
            moves(x, of(0, 0, 0, 1), 1, 400, -5);
            moves(x, of(0, 9, 9, 1), 1, 403, -5);
            moves(x, of(0, 6, 6, 1), NONE, NONE, NONE);
            // Things alone can not touch: of 12 and 0 by 0 hours each nothing comes but by the cloth.
            LentShades y = house("cloth 0 0 6;thing 12;thing 0;");
            moves(y, of(0, 12, 12, 1), 1, 403, -5);
            moves(y, of(0, 0, 0, 3), 1, 503, -5);
            moves(y, of(0, 1, 5, 3), NONE, NONE, NONE);
            e.due("the HOURS stay as told", y.touch(0, 4, 1), 0);
            e.due("the HOURS stay as told", y.touch(0, 5, 1), 0);
        });
        term("a MOVE puts HOURS of two NUMBERS (one a CLOTH) to 0 or 3, ahead of all:", "of two others, where 2 or 3 NIGHTS bring it on, 1 does not", () -> {
            // The WHITE takes what the other one has a night later; of it none takes.
            LentShades x = house("cloth 2 0 6;cloth 0 0 6;thing 12;touch 0 1 1;");
            moves(x, of(0, 12, 12, 1), 2, 100, 403);
            moves(x, of(0, 12, 12, 2), 1, 1403, -5);
            moves(x, of(0, 12, 12, 3), 1, 1403, -5);
            LentShades y = house("cloth 0 0 6;cloth 2 0 6;thing 12;touch 0 1 1;");
            moves(y, of(1, 12, 12, 1), 2, 100, 1403);
            moves(y, of(1, 12, 12, 2), 1, 403, -5);
            moves(y, of(1, 12, 12, 3), 1, 403, -5);
            // From the third cloth 9.6 come by the third night; from the thing itself 10.5 would.
            LentShades z = house("cloth 2 0 6;cloth 0 0 6;cloth 1 0 6;thing 12;touch 0 1 1;touch 2 1 1;");
            moves(z, of(0, 7, 12, 1), 1, 403, -5);
            moves(z, of(0, 9, 10, 3), 1, 2403, -5);
            // The CLOTH is the greater one of the pair.
            LentShades w = house("cloth 0 0 12;cloth 0 0 0;");
            moves(w, of(1, 12, 12, 1), 1, 103, -5);
            w.touch(0, 1, 2);
            moves(w, of(1, 0, 0, 1), 1, 100, -5);
        });
        term("the fewest MOVES (0 .. 2; of unlike pairs);", "0, 1, 2 where more would do, too; three would be needed", () -> {
            LentShades x = house("cloth 0 0 0;thing 12;thing 12;thing 12;thing 0;touch 0 7 3;");
            // 0 by 3 hours; 12 by 3, 6, 9 hours.
            moves(x, of(0, 0, 0, 1), 0, -5, -5);
            moves(x, of(0, 6, 6, 1), 1, 403, -5);
            moves(x, of(0, 8, 8, 1), 2, 403, 503);
            moves(x, of(0, 9, 9, 1), NONE, NONE, NONE);
            moves(x, of(0, 12, 12, 1), 2, 403, 700);
        });
        term("likewise); none.", "not by two: with no pair, with one, with all", () -> {
            LentShades x = house("cloth 0 0 6;");
            moves(x, of(0, 6, 6, 1), 0, -5, -5);
            moves(x, of(0, 7, 12, 3), NONE, NONE, NONE);
            moves(house("cloth 0 0 6;thing 3;"), of(0, 7, 12, 3), NONE, NONE, NONE);
            moves(house("cloth 0 0 6;cloth 1 0 6;cloth 2 0 6;cloth 4 0 6;thing 6;thing 6;thing 6;thing 6;"),
                    of(0, 7, 12, 3), NONE, NONE, NONE);
        });
    }

    private void firstMoves() {
        term("the first such ones (by pair: lesser NUMBER, other one; then 0 ahead of 3;", "the pairs told apart by each", () -> {
            LentShades x = house("cloth 0 0 0;cloth 0 0 12;cloth 0 0 12;thing 12;thing 12;touch 1 4 1;touch 2 4 1;");
            moves(x, of(0, 12, 12, 1), 1, 103, -5);
            x.cloth(2, 0, 12);
            x.touch(0, 1, 3);
            x.touch(0, 2, 3);
            x.colour(0, 0);
            x.touch(0, 4, 3);
            // 12, 12, 0 by 3 hours each: without the thing 12; the pair 0 and 4 comes behind 0 and 1, 0 and 2.
            moves(x, of(0, 12, 12, 1), 1, 400, -5);
            // Of 0 to 6 parts: without 0 and 1 it has 6, as without 0 and 2.
            moves(x, of(0, 0, 6, 1), 1, 100, -5);
            x.touch(0, 1, 0);
            moves(x, of(0, 7, 8, 1), 1, 103, -5);
            // The other number first told would be a lesser one: pairs go by the lesser number.
            LentShades y = house("cloth 0 0 0;cloth 0 0 0;cloth 0 0 12;thing 12;touch 1 0 1;");
            moves(y, of(1, 6, 9, 1), 1, 1203, -5);
            // By 3 hours with the third cloth, that one takes of it, too.
            moves(y, of(1, 12, 12, 2), 2, 100, 1403);
            // 8.05 by 0 hours with the other cloth, 8.11 by 3: both would do.
            LentShades z = house("cloth 1 0 11;cloth 1 1 6;thing 8;touch 0 1 1;touch 0 4 3;");
            moves(z, of(0, 8, 10, 3), 1, 100, -5);
        });
        term("the second behind the first likewise);", "its pair is a later one; 0 ahead of 3 in it", () -> {
            LentShades x = house("cloth 0 0 6;cloth 0 0 0;thing 12;thing 12;touch 0 1 1;");
            moves(x, of(0, 12, 12, 1), 2, 100, 403);
            moves(x, of(0, 10, 11, 1), 2, 403, 503);
            LentShades y = house("cloth 0 0 6;thing 0;thing 0;thing 12;touch 0 4 1;touch 0 5 1;touch 0 6 2;");
            // 12 alone comes without both others; 0 by 2 and 12 by 3 are 36 by 5.
            moves(y, of(0, 12, 12, 1), 2, 400, 500);
            moves(y, of(0, 7, 8, 1), 1, 400, -5);
            moves(y, of(0, 9, 9, 1), 2, 400, 603);
            moves(y, of(0, 6, 6, 1), 0, -5, -5);
            moves(y, of(0, 0, 0, 1), 1, 600, -5);
        });
    }

    private void orders(LentShades x, int count, int... first) {
        e.due("chest(NONE)", x.chest(NONE), count);
        for (int i = 0; i <= 4; i++) {
            e.due("chest(" + i + ")", x.chest(i), i < first.length ? first[i] : -5);
        }
    }

    private void chest() {
        term("CHEST: CLOTHS lie in an order, each by the next 3 HOURS, by nothing else (HOURS as told do not count), for one NIGHT:",
                "none, one, four cloths; 3 HOURS; no things", () -> {
            orders(new LentShades(), 1);
            orders(house("cloth 0 0 5;"), 1, 0);
            orders(house("cloth 0 0 5;cloth 0 0 5;"), 2, 0, 1);
            orders(house("cloth 0 0 5;cloth 0 0 5;cloth 0 0 5;"), 6, 0, 1, 2);
            orders(house("cloth 0 0 5;cloth 0 0 5;cloth 0 0 5;cloth 0 0 5;"), 24, 0, 1, 2, 3);
            // Its own by 1 and the other one by 3: 9 parts, whatever they touched as told.
            LentShades x = house("cloth 1 0 0;cloth 0 0 12;thing 0;touch 0 4 3;touch 0 1 1;");
            x.bound(0, 9, 9);
            orders(x, 2, 0, 1);
            x.bound(1, 0, 0);
            orders(x, 2, 0, 1);
            // Behind a second night the second cloth would have 9.
            x.bound(1, 1, 12);
            orders(x, 0);
            e.due("HOURS stay as told", x.touch(0, 1, 0), 1);
            e.due("HOURS stay as told", x.touch(0, 4, 0), 3);
        });
        term("each comes out with from LEAST to MOST parts of twelve (as told of each; 0, 12 at first):", "just LEAST, just MOST, one beyond", () -> {
            LentShades x = house("cloth 0 0 12;cloth 0 0 0;");
            orders(x, 2, 0, 1);
            x.bound(0, 0, 0);
            x.bound(1, 12, 12);
            orders(x, 2, 0, 1);
            x.bound(0, 1, 12);
            orders(x, 0);
            x.bound(0, 0, 11);
            orders(x, 2, 0, 1);
            x.bound(1, 0, 11);
            orders(x, 0);
            LentShades one = house("cloth 0 0 7;");
            one.bound(0, 7, 12);
            orders(one, 1, 0);
            one.bound(0, 8, 12);
            orders(one, 0);
            one.bound(0, 0, 7);
            orders(one, 1, 0);
            one.bound(0, 0, 6);
            orders(one, 0);
            // 9 parts and a half: neither to 9 nor from 10.
            LentShades half = house("cloth 1 2 7;cloth 0 0 12;");
            half.bound(0, 0, 9);
            orders(half, 0);
            half.bound(0, 10, 12);
            orders(half, 0);
            half.bound(0, 9, 10);
            orders(half, 2, 0, 1);
        });
        term("how many orders, the first (by numbers).", "the last of all is the only one, but for its mirror", () -> {
            LentShades x = house("cloth 0 0 12;cloth 0 0 0;cloth 0 0 6;cloth 0 0 3;");
            // In the midst by 12 and 3: 7 and a half; by 12 and 6: 9; at an end: 12, 6, 3.
            x.bound(1, 9, 9);
            orders(x, 4, 0, 1, 2, 3);
            x.bound(1, 7, 8);
            orders(x, 4, 0, 1, 3, 2);
            x.bound(1, 3, 3);
            orders(x, 4, 0, 2, 3, 1);
            x.bound(3, 3, 3);
            orders(x, 2, 0, 2, 3, 1);
            x.bound(3, 0, 12);
            x.bound(0, 3, 3);
            x.bound(1, 6, 6);
            orders(x, 2, 0, 3, 2, 1);
            x.bound(0, 6, 6);
            x.bound(1, 3, 3);
            orders(x, 2, 0, 2, 3, 1);
            x.bound(1, 12, 12);
            x.bound(0, 0, 12);
            orders(x, 4, 1, 0, 2, 3);
        });
    }

    private void sets(LentShades x, int a, int b, int... sets) {
        e.due("morning(" + a + ", " + b + ", NONE)", x.morning(a, b, NONE), sets.length);
        int all = 255;
        for (int i = 0; i < sets.length; i++) {
            e.due("morning(" + a + ", " + b + ", " + i + ")", x.morning(a, b, i), sets[i]);
            all &= sets[i];
        }
        e.due("morning(" + a + ", " + b + ", " + sets.length + ")", x.morning(a, b, sets.length), -5);
        e.due("surely(" + a + ", " + b + ")", x.surely(a, b), sets.length == 0 ? NONE : all);
    }

    private void morning() {
        term("MORNING: a PLAIN CLOTH that touched some of all others but WHITES, VAINS, 1 HOUR each, has SHADE a by b:",
                "not none; each KIND; the HOURS as told do not count", () -> {
            sets(new LentShades(), 0, 1);
            sets(house("cloth 0 0 0;"), 0, 1, 1);
            sets(house("cloth 1 0 0;"), 0, 1, 1);
            sets(house("cloth 2 0 0;"), 0, 1);
            sets(house("cloth 3 0 0;"), 0, 1, 1);
            sets(house("cloth 4 0 0;"), 0, 1);
            sets(house("thing 12;"), 1, 1, 16);
            sets(house("cloth 2 0 12;cloth 0 0 12;cloth 4 0 12;cloth 1 0 12;thing 12;"), 1, 1, 2, 8, 10, 16, 18, 24, 26);
            sets(house("cloth 0 3 12;cloth 0 0 0;touch 0 1 3;"), 1, 2, 3);
            sets(house("cloth 3 3 12;thing 0;touch 0 4 3;"), 1, 2, 17);
            int[] all = new int[255];
            for (int k = 0; k < 255; k++) {
                all[k] = k + 1;
            }
            sets(house("cloth 0 0 4;cloth 1 0 4;cloth 3 0 4;cloth 0 3 4;thing 4;thing 4;thing 4;thing 4;"), 33, 99, all);
        });
        term("sets of NUMBERS (bits) that give just that (from SHADES now): how many, the i-th (by bits);",
                "a by b at 0, at 1, at 98 by 99; near ones; now", () -> {
            LentShades x = house("cloth 0 0 12;cloth 0 0 0;thing 6;");
            sets(x, 0, 1, 2);
            sets(x, 0, 99, 2);
            sets(x, 1, 1, 1);
            sets(x, 99, 99, 1);
            sets(x, 1, 2, 3, 16, 19);
            sets(x, 3, 4, 17);
            sets(x, 1, 4, 18);
            sets(x, 49, 99);
            sets(x, 50, 99);
            sets(x, 98, 99);
            sets(x, 48, 96, 3, 16, 19);
            LentShades y = house("cloth 1 0 12;cloth 0 0 4;thing 0;touch 0 4 2;touch 1 4 1;");
            y.sleep();
            // Now 4 parts, 0 and 0.
            sets(y, 1, 3, 1);
            sets(y, 1, 6, 3, 17);
            sets(y, 1, 9, 19);
            sets(y, 1, 1);
        });
        term("SURELY: those in all of these.", "one set, sets with one in common, with none; no set", () -> {
            LentShades x = house("cloth 0 0 12;cloth 0 0 0;thing 0;thing 12;");
            e.due("one set", house("thing 3;").surely(1, 4), 16);
            // 12 by 1 of 3: the first or the second thing's twin with both of 0.
            sets(x, 1, 3, 19, 50);
            e.due("those of 0 in common", x.surely(1, 3), 18);
            e.due("none in common", x.surely(1, 1), 0);
            e.due("no set", x.surely(1, 99), NONE);
            e.due("no NUMBERS", new LentShades().surely(0, 1), NONE);
        });
    }

    private void lent(LentShades x, int who) {
        e.due("lent(0)", x.lent(0), Integer.bitCount(who));
        e.due("lent(1)", x.lent(1), who);
    }

    private void lent() {
        term("LENT: BORROWERS 0 .. 5, as they come:", "none, six, a seventh", () -> {
            LentShades x = house("cloth 0 0 6;cloth 0 0 6;");
            lent(x, 0);
            for (int k = 0; k < 6; k++) {
                e.due("borrower", x.borrower(k % 2, k, k, 6), k);
                e.due("count(5)", x.count(5), k + 1);
                lent(x, (2 << k) - 1);
            }
            e.due("a seventh", x.borrower(0, 12, 12, 0), FULL);
            lent(x, 63);
        });
        term("want a CLOTH from one NIGHT to another (0 .. 12, the first no later than the last)", "0 to 12, one alone, one too late", () -> {
            for (int first = -1; first <= 13; first++) {
                LentShades x = house("cloth 0 0 6;");
                for (int last = -1; last <= 13; last++) {
                    boolean right = first >= 0 && first <= last && last <= 12;
                    e.due("borrower(0, " + first + ", " + last + ", 6)", x.borrower(0, first, last, 6), right ? 0 : BAD);
                    lent(x, right ? 1 : 0);
                    e.due("refuse", x.refuse(), right ? 1 : 0);
                }
            }
        });
        term("with a parts of twelve at least behind each of these;", "just so, one more; at the first, in the midst, at the last", () -> {
            LentShades x = house("cloth 0 0 6;cloth 0 0 12;cloth 0 0 0;cloth 1 3 12;thing 0;touch 1 2 1;touch 3 4 1;");
            wish(x, 0, 0, 12, 6, 1);
            wish(x, 0, 0, 12, 7, 0);
            // Red behind 0, 2, 4 nights, not behind 1, 3, 5.
            wish(x, 1, 0, 0, 12, 1);
            wish(x, 1, 1, 1, 12, 0);
            wish(x, 1, 2, 2, 12, 1);
            wish(x, 1, 0, 1, 12, 0);
            wish(x, 1, 1, 2, 12, 0);
            wish(x, 1, 0, 2, 12, 0);
            wish(x, 1, 12, 12, 12, 1);
            wish(x, 1, 11, 12, 12, 0);
            wish(x, 1, 0, 12, 0, 1);
            wish(x, 1, 0, 12, 1, 0);
            // 4 by 5 to the 11th is above 1 by 12, to the 12th it is below.
            wish(x, 3, 0, 11, 1, 1);
            wish(x, 3, 0, 12, 1, 0);
            wish(x, 3, 12, 12, 1, 0);
            wish(x, 3, 0, 0, 12, 1);
            x.sleep();
            wish(x, 3, 0, 10, 1, 1);
            wish(x, 3, 0, 11, 1, 0);
            wish(x, 1, 0, 0, 12, 0);
        });
        term("no two have one CLOTH in the same NIGHT:", "the last of one is the first of another, the next one is not; two CLOTHS", () -> {
            LentShades x = house("cloth 0 0 6;cloth 0 0 6;");
            x.borrower(0, 0, 5, 0);
            x.borrower(0, 5, 12, 0);
            lent(x, 1);
            x.borrower(0, 6, 12, 0);
            lent(x, 5);
            x.borrower(1, 5, 5, 0);
            lent(x, 13);
            x.refuse();
            // The later ones come first.
            x.borrower(0, 7, 12, 0);
            x.borrower(0, 0, 6, 0);
            lent(x, 3);
            x.refuse();
            x.borrower(0, 6, 12, 0);
            x.borrower(0, 0, 6, 0);
            lent(x, 1);
            x.refuse();
            x.borrower(0, 3, 3, 0);
            x.borrower(0, 3, 3, 0);
            x.borrower(0, 0, 12, 0);
            lent(x, 1);
            x.refuse();
            x.borrower(0, 0, 12, 0);
            x.borrower(0, 4, 4, 0);
            lent(x, 1);
            x.borrower(0, 12, 12, 0);
            lent(x, 6);
        });
        term("the most that can be served, of like ones the least (as bits).", "more of later ones; like ones of two", () -> {
            LentShades x = house("cloth 0 0 6;");
            x.borrower(0, 0, 6, 0);
            x.borrower(0, 0, 5, 0);
            x.borrower(0, 6, 12, 0);
            x.borrower(0, 7, 12, 0);
            // 0 with 3, 1 with 2, 1 with 3.
            lent(x, 6);
            x.refuse();
            x.borrower(0, 0, 12, 7);
            x.borrower(0, 0, 12, 6);
            x.borrower(0, 0, 12, 6);
            lent(x, 2);
            for (int k = 0; k < 3; k++) {
                x.borrower(0, 4 * k, 4 * k + 3, 6);
            }
            lent(x, 56);
        });
    }

    private void wish(LentShades x, int cloth, int first, int last, int a, int want) {
        x.refuse();
        x.borrower(cloth, first, last, a);
        e.due("(" + cloth + ", " + first + ", " + last + ", " + a + ") is served", x.lent(1), want);
    }

    private void coloursAndLeast() {
        term("COLOURS: how many unlike SHADES and COLOURS there are now.", "none, eight alike, eight unlike, a fraction", () -> {
            e.due("none", new LentShades().colours(), 0);
            e.due("one CLOTH", house("cloth 0 0 0;").colours(), 1);
            e.due("one THING", house("thing 0;").colours(), 1);
            e.due("one CLOTH and a THING alike", house("cloth 0 0 3;thing 3;").colours(), 1);
            e.due("a THING as the first CLOTH", house("cloth 0 0 3;cloth 0 0 4;thing 3;").colours(), 2);
            e.due("a THING as the last CLOTH", house("cloth 0 0 3;cloth 0 0 4;thing 4;").colours(), 2);
            e.due("a THING as the first THING", house("cloth 0 0 3;thing 4;thing 5;thing 4;").colours(), 3);
            e.due("alike", house("cloth 0 0 3;cloth 1 0 3;cloth 2 0 3;cloth 4 0 3;thing 3;thing 3;thing 3;thing 3;").colours(), 1);
            e.due("unlike", house("cloth 0 0 0;cloth 1 0 1;cloth 2 0 2;cloth 4 0 3;thing 4;thing 5;thing 11;thing 12;").colours(), 8);
            LentShades x = house("cloth 1 0 12;cloth 0 0 4;thing 0;thing 4;touch 0 4 2;");
            e.due("12, 4, 0, 4", x.colours(), 3);
            x.sleep();
            e.due("4, 4, 0, 4", x.colours(), 2);
            x.sleep();
            e.due("1 and a third, 4, 0, 4", x.colours(), 3);
            x.colour(1, 1);
            e.due("1 and a third, 4, 0, 1", x.colours(), 4);
            LentShades y = house("cloth 1 0 0;cloth 2 0 0;cloth 3 0 0;thing 5;touch 0 4 1;touch 1 4 1;");
            y.sleep();
            e.due("2 and a half, 5, 0, 5", y.colours(), 3);
        });
        term("LEAST: the least COLOUR of a THING (0 .. 12, in place of its own) by which a CLOTH has a parts of twelve at least behind n NIGHTS;",
                "0, 12, just so; 0 and 12 NIGHTS", () -> {
            LentShades x = house("cloth 0 0 3;thing 7;touch 0 4 1;");
            for (int a = 0; a <= 12; a++) {
                for (int n = 1; n <= 12; n++) {
                    e.due("its colour", x.least(0, 0, n, a), a);
                }
                e.due("now", x.least(0, 0, 0, a), a <= 3 ? 0 : NONE);
            }
            e.due("its own stays", x.colour(0, 7), 7);
            // Of twelve behind n nights of halves: v less v by 2 to the n.
            LentShades y = halves();
            e.due("half", y.least(0, 0, 1, 6), 12);
            e.due("half", y.least(0, 0, 1, 5), 10);
            e.due("a quarter less", y.least(0, 0, 2, 9), 12);
            e.due("twelve nights", y.least(0, 0, 12, 11), 12);
            e.due("twelve nights", y.least(0, 0, 12, 10), 11);
            e.due("0 parts", y.least(0, 0, 12, 0), 0);
            // The other ones keep their own.
            LentShades z = house("cloth 0 0 0;thing 12;thing 6;thing 0;touch 0 4 1;touch 0 5 1;touch 0 6 1;");
            int[][] due = {{0, 0, 0}, {0, 0, 0}, {0, 0, 0}, {3, 0, 0}, {6, 0, 0}, {9, 3, 0}, {12, 6, 0}, {NONE, 9, 3}, {NONE, 12, 6},
                {NONE, NONE, 9}, {NONE, NONE, 12}, {NONE, NONE, NONE}, {NONE, NONE, NONE}};
            for (int a = 0; a <= 12; a++) {
                for (int t = 0; t < 3; t++) {
                    e.due("least(" + t + ", 0, 1, " + a + ")", z.least(t, 0, 1, a), due[a][t]);
                }
            }
        });
        term("behind n NIGHTS; none.", "12 are not enough; the thing is far off", () -> {
            LentShades y = halves();
            y.thing(12);
            e.due("half", y.least(0, 0, 1, 7), NONE);
            e.due("twelve nights", y.least(0, 0, 12, 12), NONE);
            e.due("the other thing", y.least(1, 0, 12, 11), 0);
            e.due("the other thing", y.least(1, 0, 12, 12), NONE);
        });
    }

    private void undoAndImages() {
        term("UNDO: as ahead of the last NIGHT that was slept (the last 6 at most).", "0 to 12 slept: each SHADE, how many", () -> {
            for (int slept = 0; slept <= 12; slept++) {
                LentShades x = halves();
                for (int k = 0; k < slept; k++) {
                    x.sleep();
                }
                int most = Math.min(6, slept);
                for (int k = 1; k <= most; k++) {
                    e.due("count(3)", x.count(3), most - k + 1);
                    e.due("undo", x.undo(), 1);
                    e.due("count(2)", x.count(2), slept - k);
                    e.shade(x, 0, 0, (1L << slept - k) - 1, 1L << slept - k);
                }
                e.due("count(3)", x.count(3), 0);
                e.due("undo of " + slept, x.undo(), NO);
                e.due("count(2)", x.count(2), slept - most);
            }
            LentShades y = halves();
            for (int k = 0; k < 8; k++) {
                y.sleep();
            }
            for (int k = 0; k < 6; k++) {
                y.undo();
            }
            for (int k = 0; k < 3; k++) {
                y.sleep();
            }
            e.due("three anew", y.count(3), 3);
            e.due("the fifth in all", y.count(2), 5);
        });
        term("IMAGES 0, 1 keep all but them, THE TEXT, THE FRACTION and STATUS;", "of nothing, of all; each goes on by itself", () -> {
            LentShades x = new LentShades();
            e.due("image of nothing", x.image(0), 1);
            x.cloth(1, 0, 12);
            x.image(1);
            x.thing(0);
            x.touch(0, 4, 1);
            Edges.type(x, "thing 1;");
            x.shade(0, 1);
            x.cloth(5, 0, 0);
            e.due("from the first one", x.from(0), 1);
            e.due("no CLOTH", x.count(0), 0);
            e.due("no THING", x.count(1), 0);
            e.due("THE TEXT stays", x.count(4), 8);
            e.fraction("THE FRACTION stays", x, 1, 2);
            e.status(x, 1, 0, 0);
            e.due("from the second one", x.from(1), 1);
            e.due("a CLOTH", x.count(0), 1);
            e.due("no THING", x.count(1), 0);
            e.due("THE TEXT reads", x.read(), 1);
            e.due("the images stay", x.from(0), 1);
            e.due("no THING", x.count(1), 0);
        });
        term("what may be undone they keep; it goes on from one.", "none, all six; with HOURS, COLOURS, LEAST, MOST, BORROWERS", () -> {
            LentShades x = Edges.full();
            LentShades y = Edges.full();
            x.image(0);
            x.refuse();
            x.borrower(0, 1, 2, 3);
            x.bound(0, 5, 6);
            x.colour(0, 5);
            x.touch(0, 1, 2);
            for (int k = 0; k < 6; k++) {
                x.undo();
            }
            x.sleep();
            e.due("from", x.from(0), 1);
            y.image(0);
            e.due("count(3)", x.count(3), 6);
            e.alike("behind from", x, y);
            LentShades z = halves();
            z.image(1);
            z.sleep();
            z.from(1);
            e.due("none may be undone", z.undo(), NO);
            e.shade(z, 0, 0, 0, 12);
        });
        term("what may be undone they keep;", "the SHADES of each of 1 to 6 NIGHTS, KINDS, HOLDS, behind another HOUSE and its NIGHTS", () -> {
            for (int slept = 1; slept <= 8; slept++) {
                LentShades x = lateHouse(slept);
                LentShades y = lateHouse(slept);
                for (int times = 0; times < 2; times++) {
                    x.clear();
                    Edges.type(x, "cloth 0 3 5;cloth 2 0 6;cloth 4 1 7;thing 12;thing 1;touch 0 4 1;touch 1 5 3;");
                    x.read();
                    for (int k = 0; k < 8; k++) {
                        x.sleep();
                    }
                    x.clear();
                    e.due("from", x.from(0), 1);
                }
                x.shade(0, 0);
                y.shade(0, 0);
                e.alike("behind " + slept, x, y);
            }
        });
    }

    private static LentShades lateHouse(int slept) {
        LentShades x = house("cloth 1 1 12;cloth 3 2 0;thing 0;thing 9;touch 0 4 1;touch 1 4 2;touch 1 5 1;");
        x.bound(1, 2, 8);
        x.borrower(1, 0, 2, 4);
        for (int k = 0; k < slept; k++) {
            x.sleep();
        }
        x.image(0);
        return x;
    }

    private void status() {
        term("STATUS: how many calls were refused as BAD, NO, FULL (each answer told so below is such a one).", "0 at first; each counts by itself", () -> {
            LentShades x = new LentShades();
            e.status(x, 0, 0, 0);
            x.cloth(-1, 0, 0);
            e.status(x, 1, 0, 0);
            x.undo();
            e.status(x, 1, 1, 0);
            for (int k = 0; k < 5; k++) {
                x.thing(0);
            }
            e.status(x, 1, 1, 1);
            for (int k = 2; k <= 70; k++) {
                x.thing(13);
                x.from(0);
                x.thing(12);
                e.status(x, k, k, k);
            }
        });
        term("(where others are told they count as these)", "-10 of moves, chest, morning; -1 of status are BAD", () -> {
            LentShades x = house("cloth 0 0 0;");
            e.due("moves", x.moves(1, 0, 0, 1, 0), -10);
            e.status(x, 1, 0, 0);
            e.due("chest", x.chest(-2), -10);
            e.status(x, 2, 0, 0);
            e.due("morning", x.morning(0, 0, 0), -10);
            e.status(x, 3, 0, 0);
            e.due("status", x.status(3), -1);
            e.status(x, 4, 0, 0);
        });
    }

    private void fraction() {
        term("THE FRACTION is 0 by 1 at first;", "of a new object, whatever is refused", () -> {
            LentShades x = new LentShades();
            e.fraction("at first", x, 0, 1);
            x.shade(0, 0);
            x.rest(0);
            e.fraction("behind refused calls", x, 0, 1);
            x.cloth(1, 0, 5);
            x.rest(0);
            x.sleep();
            x.soRed(0, 5);
            e.fraction("behind others", x, 0, 1);
        });
        term("lowest terms, below above 0.", "0, 1, all twelfths, greater ones; 0 behind another one", () -> {
            LentShades x = house("cloth 0 0 12;cloth 0 0 0;cloth 1 2 0;cloth 1 1 12;thing 6;thing 0;touch 2 4 3;touch 3 5 1;");
            e.shade(x, 0, 0, 1, 1);
            e.shade(x, 3, 12, 4096, 531441);
            e.shade(x, 1, 0, 0, 1);
            e.shade(x, 2, 1, 1, 4);
            e.shade(x, 2, 2, 3, 8);
            for (int n = 0; n <= 12; n++) {
                // Half of 1 less 1 by 2 to the n.
                e.shade(x, 2, n, (1L << n) - 1, 2L << n);
                e.shade(x, 3, n, 1L << n, (long) Math.pow(3, n));
            }
        });
        term("Its limbs are digits to the base 1073741824, the lowest first.", "base less 1, the base, one more; 0; the longest", () -> {
            // Each night leaves a quarter: below is 4 to the n, for 15 nights just the base.
            LentShades x = house("cloth 1 0 0;thing 12;touch 0 4 3;");
            for (int k = 0; k < 12; k++) {
                x.sleep();
            }
            e.shade(x, 0, 2, (1L << 28) - 1, 1L << 28);
            x.shade(0, 3);
            long[] due = {1, 1, 2, 1073741823, NONE, 0, 1, NONE};
            long[] got = {x.sign(0), x.sign(1), x.sign(2), x.limb(0, 0), x.limb(0, 1), x.limb(1, 0), x.limb(1, 1), x.limb(1, 2)};
            for (int k = 0; k < due.length; k++) {
                e.due("1 less than the base, by the base: " + k, got[k], due[k]);
            }
            // 4 by 5 to the 15th: the base is above.
            LentShades y = house("cloth 1 3 12;thing 0;touch 0 4 1;");
            for (int k = 0; k < 12; k++) {
                y.sleep();
            }
            y.shade(0, 3);
            e.due("sign(1)", y.sign(1), 2);
            e.due("the lowest", y.limb(0, 0), 0);
            e.due("the next one", y.limb(0, 1), 1);
            e.due("no more", y.limb(0, 2), NONE);
            for (int n = 0; n <= 12; n++) {
                y.shade(0, n);
                e.fraction("4 by 5 to the " + (12 + n), y, BigInteger.valueOf(4).pow(12 + n), BigInteger.valueOf(5).pow(12 + n));
            }
            LentShades longest = house("cloth 3 3 12;cloth 2 0 0;thing 0;thing 0;thing 0;thing 0;touch 0 4 3;touch 0 5 3;touch 0 6 3;touch 0 7 2;");
            for (int k = 0; k < 12; k++) {
                longest.sleep();
            }
            // 4 by 26 to the 24th.
            longest.shade(0, 12);
            e.fraction("2 by 13 to the 24th", longest, BigInteger.valueOf(2).pow(24), BigInteger.valueOf(13).pow(24));
            e.due("0 has none above", longest.shade(1, 0), 1);
            e.due("sign(0)", longest.sign(0), 0);
            e.due("sign(1)", longest.sign(1), 0);
            e.due("sign(2)", longest.sign(2), 1);
            e.due("limb(0, 0)", longest.limb(0, 0), NONE);
            e.due("limb(1, 0)", longest.limb(1, 0), 1);
        });
    }

    private void lowestTerms() {
        term("lowest terms, below above 0.", "each prime that CLOTHS are divided by, to 37", () -> {
            // Of its own by HOLD and 1, of a cloth by h, of things by twice the sum of theirs: all red.
            primes(0, 0, 3, 2, 0, 0, 11);
            primes(0, 0, 3, 3, 0, 0, 13);
            primes(0, 0, 3, 3, 2, 0, 17);
            primes(0, 0, 3, 3, 3, 0, 19);
            primes(0, 0, 3, 3, 3, 2, 23);
            primes(3, 1, 3, 3, 3, 3, 29);
            primes(3, 3, 3, 3, 3, 3, 31);
            primes(1, 0, 1, 0, 0, 0, 4);
            primes(0, 0, 1, 0, 0, 0, 3);
            primes(0, 0, 2, 0, 0, 0, 5);
            primes(0, 0, 3, 0, 0, 0, 7);
        });
        term("lowest terms, below above 0.", "REST, divided by more than the greatest of these", () -> {
            // 48, 22, 9, 3 of the colours by 82: 123 by 82, a prime of 41 goes out.
            LentShades x = house("cloth 0 0 0;cloth 0 0 0;thing 1;thing 0;thing 7;thing 4;touch 0 1 3;touch 0 4 3;touch 0 5 1;"
                    + "touch 1 4 3;touch 1 5 3;touch 1 6 3;touch 1 7 1;");
            e.due("rest", x.rest(0), 1);
            e.fraction("123 by 82 parts", x, 1, 8);
            x.colour(1, 12);
            e.due("rest", x.rest(0), 1);
            e.fraction("387 by 82 parts", x, 387, 12 * 82);
        });
        term("Its limbs are digits to the base 1073741824, the lowest first.", "REST of less than the base, by 9 more", () -> {
            LentShades x = house("cloth 0 0 0;cloth 2 0 0;cloth 1 0 5;thing 6;thing 0;touch 2 4 3;");
            x.thing(6);
            x.touch(2, 6, 1);
            for (int k = 0; k < 11; k++) {
                x.sleep();
            }
            e.shade(x, 2, 0, 292968749, 12 * 48828125L);
            x.touch(2, 4, 0);
            x.touch(2, 6, 0);
            x.touch(0, 2, 1);
            x.touch(0, 5, 1);
            x.sleep();
            e.shade(x, 0, 0, 292968749, 1171875000);
            x.touch(0, 2, 0);
            x.touch(0, 5, 0);
            x.touch(0, 1, 3);
            x.touch(2, 5, 3);
            e.due("rest", x.rest(1), 1);
            e.fraction("what the first one has", x, 292968749, 1171875000);
        });
    }

    /** A THIRSTY cloth, another one, four things, all red: it stays at 1 by 1. */
    private void primes(int hold, int h, int a, int b, int c, int d, int whole) {
        e.due("in all", hold + 1 + h + 2 * (a + b + c + d), whole);
        LentShades x = house("cloth 3 " + hold + " 12;cloth 0 0 12;thing 12;thing 12;thing 12;thing 12;touch 0 1 " + h + ";touch 0 4 " + a
                + ";touch 0 5 " + b + ";touch 0 6 " + c + ";touch 0 7 " + d + ";");
        for (int n = 0; n <= 12; n += 3) {
            e.shade(x, 0, n, 1, 1);
        }
        x.sleep();
        e.shade(x, 0, 0, 1, 1);
        e.shade(x, 0, 12, 1, 1);
    }

    private void amidLongOnes() {
        term("a SHADE at first (0 .. 12 parts of twelve)", "each of the thirteen, behind 12 NIGHTS of long fractions", () -> {
            String text = "cloth3 3 0;cloth3 2 12;thing12;thing1;touch 0 1 1;touch 0 4 3;touch 0 5 1;touch 1 4 2;touch 1 5 3;";
            for (int v = 0; v <= 12; v++) {
                LentShades x = house(text);
                Oracle y = told(text);
                for (int k = 0; k < 12; k++) {
                    e.due("sleep", x.sleep(), y.sleep());
                }
                e.due("cloth", x.cloth(1, 0, v), y.cloth(1, 0, v));
                e.due("thing", x.thing(v), y.thing(v));
                e.shade(x, 2, 0, v, 12);
                e.shade(x, 2, 12, v, 12);
                y.shade(2, 12);
                e.due("so red", x.soRed(2, v), 0);
                e.due("no redder", v == 12 ? NONE : x.soRed(2, v + 1), NONE);
                e.due("colours", x.colours(), v == 12 || v == 1 ? 4 : 5);
                e.due("sets", x.morning(v, 12, NONE), y.morning(v, 12, NONE));
                e.due("a set", x.morning(v, 12, v == 1 || v == 12 ? 1 : 0), v == 12 ? 16 : v == 1 ? 32 : 4);
                e.due("in all", x.surely(v, 12), y.surely(v, 12));
                for (int i = 0; i < 2; i++) {
                    for (int n = 0; n <= 12; n += 4) {
                        e.due("shade", x.shade(i, n), y.shade(i, n));
                        e.due("digest", x.digest(), y.digest());
                        for (int a = 0; a <= 12; a += 3) {
                            e.due("soRed", x.soRed(i, a), y.soRed(i, a));
                            e.due("least", x.least(2, i, n, a), y.least(2, i, n, a));
                        }
                    }
                }
            }
        });
    }

    private void longest() {
        term("Its limbs are digits to the base 1073741824, the lowest first.", "16 of them: by 37, 35, 34, 33 in each of 24 NIGHTS", () -> {
            // All cloths and things touch for 3 hours; 4, 4, 3, 4 of their own, 9 of cloths, 24, 22, 22, 20 of things.
            String text = "cloth3 3 0;cloth3 3 5;cloth3 2 7;cloth3 3 12;thing12;thing1;thing7;thing11;";
            LentShades x = house(text);
            Oracle y = told(text);
            int[] lastHours = {3, 2, 2, 1};
            for (int i = 0; i < 4; i++) {
                for (int n = i + 1; n < 8; n++) {
                    int h = n == 7 ? lastHours[i] : 3;
                    e.due("touch", x.touch(i, n, h), y.touch(i, n, h));
                }
            }
            for (int k = 1; k <= 12; k++) {
                e.due("sleep", x.sleep(), y.sleep());
            }
            for (int i = 0; i < 4; i++) {
                for (int n = 10; n <= 12; n++) {
                    x.shade(i, n);
                    y.shade(i, n);
                    e.due("limbs below", x.sign(2), n == 12 ? 16 : y.sign(2));
                    for (int k = 0; k < 17; k++) {
                        e.due("limb(0, " + k + ")", x.limb(0, k), y.limb(0, k));
                        e.due("limb(1, " + k + ")", x.limb(1, k), y.limb(1, k));
                    }
                    e.due("digest", x.digest(), y.digest());
                }
                e.due("soRed", x.soRed(i, 8), y.soRed(i, 8));
            }
        });
    }

    private void refused() {
        term("Refused, changing nothing but STATUS, the first of: BAD -2 a number is not as told; NO -3 as told; FULL -4",
                "BAD ahead of NO, BAD ahead of FULL", () -> {
            e.due("BAD", LentShades.BAD, -2);
            e.due("NO", LentShades.NO, -3);
            e.due("FULL", LentShades.FULL, -4);
            e.refused("cloth, FULL and BAD", Edges::full, x -> x.cloth(5, 0, 0), BAD, Edges.BADS);
            e.refused("thing, FULL and BAD", Edges::full, x -> x.thing(13), BAD, Edges.BADS);
            e.refused("type, FULL and BAD", Edges::full, x -> x.type(0, 9), BAD, Edges.BADS);
            e.refused("borrower, FULL and BAD", Edges::full, x -> x.borrower(0, 0, 13, 0), BAD, Edges.BADS);
            e.refused("rest, NO and BAD", Edges::full, x -> x.rest(4), BAD, Edges.BADS);
            e.refused("from, NO and BAD", Edges::empty, x -> x.from(2), BAD, Edges.BADS);
            e.refused("cloth, FULL", Edges::full, x -> x.cloth(4, 3, 12), FULL, Edges.FULLS);
            e.refused("sleep, NO", Edges::full, LentShades::sleep, NO, Edges.NOES);
            e.refused("undo, NO", Edges::empty, LentShades::undo, NO, Edges.NOES);
        });
    }
}
