import java.math.BigInteger;

/** Promises 24 to 30: THE FRACTION, images, what was refused, how many, the digest. */
public final class WhatThereIsTest {
    private static final int NONE = LentShades.NONE, BAD = LentShades.BAD, NO = LentShades.NO;
    private static final Check CHECK = new Check("WhatThereIsTest");

    public static void main(String[] args) {
        fractions();
        longFraction();
        images();
        imagesKeepUndo();
        imagesLeaveSome();
        status();
        counts();
        digests();
        CHECK.end();
    }

    private static void due(String what, long got, long want) {
        CHECK.due(what, got, want);
    }

    private static void fractions() {
        LentShades x = Check.house("cloth 0 0 8;");
        CHECK.shade(x, 0, 0, 2, 3);
        due("25 not so many", x.limb(0, 1), NONE);
        due("25 not so many", x.limb(1, 1), NONE);
        due("25 far", x.limb(1, Integer.MAX_VALUE), NONE);
        due("24 what", x.sign(-1), BAD);
        due("24 what", x.sign(3), BAD);
        due("25 which", x.limb(-1, 0), BAD);
        due("25 which", x.limb(2, 0), BAD);
        due("25 i below 0", x.limb(0, -1), BAD);
        due("25 i below 0", x.limb(1, -1), BAD);
        CHECK.status(x, 6, 0, 0);
    }

    /** It holds 4 of 28 in each of 24 nights: a seventh to the 24th is missing to red. */
    private static void longFraction() {
        LentShades x = Check.house("cloth 3 3 0;thing 12;thing 12;thing 12;thing 12;"
                + "touch 0 4 3;touch 0 5 3;touch 0 6 3;touch 0 7 3;");
        for (int k = 0; k < 12; k++) {
            x.sleep();
        }
        x.shade(0, 12);
        BigInteger below = BigInteger.valueOf(7).pow(24);
        limbs("above", x, 0, below.subtract(BigInteger.ONE));
        limbs("below", x, 1, below);
        // However often a house is read and slept in, what is below begins anew.
        Check.type(x, "cloth 3 3 0;thing 12;thing 12;touch 0 4 3;touch 0 5 3;cloth 0 0 0;");
        for (int k = 0; k < 15; k++) {
            x.read();
            for (int night = 0; night < 12; night++) {
                x.sleep();
            }
        }
        x.shade(0, 12);
        below = BigInteger.valueOf(4).pow(24);
        limbs("above anew", x, 0, below.subtract(BigInteger.ONE));
        limbs("below anew", x, 1, below);
        // What is below comes just to the limbs' base: 16 to the 6th by 4, then by 16.
        LentShades y = Check.house("cloth 3 3 0;thing 12;thing 12;touch 0 4 3;touch 0 5 3;");
        for (int k = 0; k < 6; k++) {
            y.sleep();
        }
        y.touch(0, 4, 0);
        y.touch(0, 5, 0);
        y.sleep();
        y.touch(0, 4, 3);
        y.touch(0, 5, 3);
        CHECK.shade(y, 0, 1, 16383, 16384);
    }

    private static void limbs(String what, LentShades x, int which, BigInteger want) {
        BigInteger got = BigInteger.ZERO;
        int size = x.sign(1 + which);
        for (int i = size - 1; i >= 0; i--) {
            got = got.shiftLeft(30).add(BigInteger.valueOf(x.limb(which, i)));
        }
        due("25 limbs " + what, size, (want.bitLength() + 29) / 30);
        due("25 number " + what, got.equals(want) ? 1 : 0, 1);
        due("25 no more " + what, x.limb(which, size), NONE);
    }

    private static void images() {
        LentShades x = Check.house("cloth 1 2 8;cloth 0 0 3;thing 4;touch 0 1 2;touch 0 4 1;");
        x.bound(1, 2, 5);
        x.borrower(0, 1, 2, 3);
        x.sleep();
        due("26 BAD", x.image(-1), BAD);
        due("26 BAD", x.image(2), BAD);
        due("27 BAD", x.from(-1), BAD);
        due("27 BAD", x.from(2), BAD);
        due("27 NO", x.from(1), NO);
        x.shade(0, 0);
        long before = x.digest();
        due("26 image", x.image(1), 1);
        due("27 the other one", x.from(0), NO);
        x.cloth(3, 3, 3);
        x.thing(1);
        x.touch(0, 1, 0);
        x.colour(0, 12);
        x.bound(0, 1, 1);
        x.bound(1, 0, 0);
        x.refuse();
        x.borrower(1, 0, 0, 0);
        x.borrower(1, 0, 0, 0);
        x.sleep();
        due("27 from", x.from(1), 1);
        due("27 all is as kept", x.digest(), before);
        x.shade(0, 0);
        due("27 shades, too", x.digest(), before);
        x.touch(0, 1, 0);
        due("27 from again", x.from(1), 1);
        due("27 the image itself stays", x.digest(), before);
        CHECK.status(x, 4, 2, 0);
        x.touch(0, 1, 0);
        due("26 kept anew", x.image(1), 1);
        x.touch(0, 1, 3);
        x.from(1);
        due("27 as kept last", x.touch(0, 1, 0), 0);
    }

    private static void imagesKeepUndo() {
        LentShades x = Check.house("cloth 0 0 12;cloth 0 0 0;touch 0 1 1;");
        for (int k = 0; k < 8; k++) {
            x.sleep();
        }
        x.image(0);
        x.undo();
        x.undo();
        x.sleep();
        x.cloth(0, 0, 0);
        x.from(0);
        due("27 nights", x.count(2), 8);
        due("27 may be undone", x.count(3), 6);
        for (int k = 7; k >= 2; k--) {
            due("27 undo", x.undo(), 1);
            CHECK.shade(x, 0, 0, k % 2 == 0 ? 1 : 0, 1);
        }
        due("27 no more", x.undo(), NO);
    }

    private static void imagesLeaveSome() {
        LentShades x = Check.house("cloth 0 0 6;");
        Check.type(x, "abc");
        x.image(0);
        Check.type(x, "de");
        x.shade(0, 0);
        x.image(1);
        x.sleep();
        x.undo();
        x.undo();
        x.from(0);
        due("27 THE TEXT stays", x.count(4), 5);
        CHECK.fraction("27 THE FRACTION stays", x, 1, 2);
        CHECK.status(x, 0, 1, 0);
        due("27 images stay", x.from(1), 1);
    }

    private static void status() {
        LentShades x = new LentShades();
        CHECK.status(x, 0, 0, 0);
        due("28 another what", x.status(3), -1);
        due("28 another what", x.status(-1), -1);
        CHECK.status(x, 2, 0, 0);
        Check.type(x, "clot");
        due("28 a fault is no refusal", x.read(), -10);
        x.cloth(0, 0, 0);
        due("28 NONE is no refusal", x.soRed(0, 1), NONE);
        due("28 nor -5", x.chest(1), -5);
        due("28 nor NONE of moves", x.moves(0, 1, 1, 1, 0), NONE);
        due("28 nor NONE of surely", x.surely(1, 7), NONE);
        due("28 nor NONE of limb", x.limb(0, 9), NONE);
        CHECK.status(x, 2, 0, 0);
        due("28 -10 counts", x.moves(0, 1, 0, 1, 0), -10);
        due("28 -10 counts", x.chest(-3), -10);
        due("28 -10 counts", x.morning(1, 0, 0), -10);
        CHECK.status(x, 5, 0, 0);
    }

    private static void counts() {
        LentShades x = Check.house("cloth 0 0 12;cloth 0 0 12;cloth 0 0 12;thing 0;thing 0;");
        for (int k = 0; k < 7; k++) {
            x.sleep();
        }
        Check.type(x, "12345678");
        for (int k = 0; k < 5; k++) {
            x.borrower(0, 0, 0, 0);
        }
        int[] want = {3, 2, 7, 6, 8, 5};
        for (int what = 0; what <= 5; what++) {
            due("29 count(" + what + ")", x.count(what), want[what]);
        }
        due("29 what", x.count(-1), BAD);
        due("29 what", x.count(6), BAD);
        CHECK.status(x, 2, 0, 0);
    }

    private static void digests() {
        LentShades x = Check.house("cloth 1 2 8;cloth 4 3 0;thing 4;thing 7;touch 0 1 2;touch 0 5 1;touch 1 4 3;");
        x.bound(1, 2, 5);
        x.borrower(0, 1, 2, 3);
        x.borrower(1, 0, 12, 11);
        Check.type(x, "abc");
        x.shade(0, 0);
        x.sleep();
        int[] all = {2, 2, 1, 1, 3, 2, 1, 2, 0, 12, 0, 2, 0, 0, 0, 1, 0, 0, 4, 3, 2, 5, 2, 0, 0, 0, 3, 0, 0, 0, 4, 7,
            0, 1, 2, 3, 1, 0, 12, 11, 1, 1, 1, 2, 3};
        long h = 673;
        for (int v : all) {
            h = 31 * h + v;
        }
        due("30 digest", x.digest(), h);
        due("30 changes nothing", x.digest(), h);
        CHECK.status(x, 0, 0, 0);
    }
}
