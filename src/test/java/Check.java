/** What the tests of promises share: answers that are due, houses told in few words. */
final class Check {
    private final String name;
    private int wrong;

    Check(String name) {
        this.name = name;
    }

    void due(String what, long got, long want) {
        if (got != want) {
            wrong++;
            System.out.println(name + ": " + what + " answered " + got + ", due is " + want);
        }
    }

    /** THE FRACTION, where it has one limb above and below at most. */
    void fraction(String what, LentShades x, int above, int below) {
        due(what + ", its sign", x.sign(0), above == 0 ? 0 : 1);
        due(what + ", limbs above", x.sign(1), above == 0 ? 0 : 1);
        due(what + ", limbs below", x.sign(2), 1);
        due(what + ", above", x.limb(0, 0), above == 0 ? LentShades.NONE : above);
        due(what + ", below", x.limb(1, 0), below);
    }

    void shade(LentShades x, int cloth, int n, int above, int below) {
        due("shade(" + cloth + ", " + n + ")", x.shade(cloth, n), 1);
        fraction("shade(" + cloth + ", " + n + ")", x, above, below);
    }

    void status(LentShades x, int bad, int no, int full) {
        due("status(0)", x.status(0), bad);
        due("status(1)", x.status(1), no);
        due("status(2)", x.status(2), full);
    }

    static int type(LentShades x, String text) {
        int length = x.count(4);
        for (int k = 0; k < text.length(); k++) {
            length = x.type(text.charAt(k), 1);
        }
        return length;
    }

    /** The house of a text, on a new object. */
    static LentShades house(String text) {
        LentShades x = new LentShades();
        type(x, text);
        if (x.read() < 0) {
            throw new IllegalStateException("no house: " + text);
        }
        x.clear();
        return x;
    }

    void end() {
        System.out.println(name + ": " + (wrong == 0 ? "all answers are as due" : wrong + " answers are not as due"));
        System.exit(wrong == 0 ? 0 : 1);
    }
}
