/** What the tests share: dues that are counted, texts and pairs that are put into sheets. */
final class Checks {
    static final int UNKNOWN = -1, OUTSIDE = -2, STATE = -3, FULL = -4, NONE = -9;
    static final int NULL = -11, CAST = -12, INDEX = -13, SIZE = -14;
    static final long LOST = Long.MIN_VALUE;

    private static int right = 0;
    private static int wrong = 0;
    private static String test = "";

    private Checks() {
    }

    /** What is due from here on is told as of this test. */
    static void in(String name) {
        test = name.isEmpty() ? "" : name + ": ";
    }

    static void due(String what, long got, long want) {
        if (got == want) {
            right++;
        } else {
            wrong++;
            System.out.println(test + what + ": answered " + got + ", due is " + want);
        }
    }

    static void holds(String what, boolean is) {
        due(what, is ? 1 : 0, 1);
    }

    /** To be the last call of a test's main method. */
    static void end() {
        System.out.println(right + " right, " + wrong + " wrong");
        if (wrong > 0 || right == 0) {
            System.exit(1);
        }
    }

    /** Puts a row into a sheet. */
    static void row(RockingRiders x, int sheet, int lane, int... cells) {
        due("sheet", x.sheet(sheet, lane, cells.length), 1);
        for (int i = 0; i < cells.length; i++) {
            due("put", x.put(sheet, i, cells[i]), 1);
        }
    }

    static int[] codes(String text) {
        return text.chars().toArray();
    }

    /** What nursery answers to a text, put into sheet 0. */
    static int text(RockingRiders x, String text) {
        row(x, 0, 0, codes(text));
        return x.nursery(0, 0, 0, text.length());
    }

    /** A new object with the nursery of a text. */
    static RockingRiders with(String text) {
        RockingRiders x = new RockingRiders();
        holds("taken: " + text, text(x, text) > 0);
        return x;
    }

    static int set(int... bits) {
        int set = 0;
        for (int bit : bits) {
            set |= 1 << bit;
        }
        return set;
    }
}
