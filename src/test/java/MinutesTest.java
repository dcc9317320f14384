/** Promises 7 to 10. */
public final class MinutesTest {
    private static final String FOUR = "r4,05,12,05;c73;m29;u31;c99";

    public static void main(String[] args) {
        minutes();
        shutAndLook();
        afternoonIsOnlyTold();
        afternoonFromHowAllIs();
        afternoonAnswers();
        afternoonFirstWrong();
        afternoonOfNothing();
        afternoonRefusals();
        afternoonPairs();
        longestAfternoon();
        Checks.end();
    }

    private static void minutes() {
        RockingRiders x = Checks.with(FOUR);
        Checks.due("nobody's eyes are shut", x.minutes(99), 0);
        Checks.due("minute", x.many(3), 99);
        Checks.due("nobody has gone", x.ofRider(0, 4), 0);
        for (int k = 0; k < 4; k++) {
            x.shut(k);
        }
        Checks.due("as long as the first lasts", x.minutes(1), 0);
        Checks.due("he has gone", x.ofRider(2, 4), 8);
        Checks.due("he looks", x.minutes(1), 1);
        Checks.due("all is lost", x.ofRider(2, 4), 0);
        Checks.due("his eyes", x.ofRider(2, 7), 0);
        Checks.due("his minutes", x.ofRider(2, 8), 0);
        Checks.due("another goes on", x.ofRider(0, 4), 14);
        Checks.due("he looks but once", x.minutes(1), 0);
        Checks.due("another lasted", x.ofRider(0, 8), 3);
        Checks.due("two more look", x.minutes(7), 3);
        Checks.due("minutes in all", x.many(3), 109);
        Checks.due("nobody", x.many(4), 0);
        x.shut(2);
        Checks.due("shut anew", x.minutes(1), 0);
        Checks.due("gone anew", x.ofRider(2, 4), 8);
        Checks.due("minutes 0", x.minutes(0), Checks.OUTSIDE);
        Checks.due("minutes 100", x.minutes(100), Checks.OUTSIDE);
        Checks.due("minutes below", x.minutes(Integer.MIN_VALUE), Checks.OUTSIDE);
        Checks.due("no minute by that", x.many(3), 110);
    }

    private static void shutAndLook() {
        RockingRiders x = Checks.with(FOUR);
        Checks.due("shut 3", x.shut(3), 1);
        Checks.due("shut 1", x.shut(1), 2);
        Checks.due("shut 1 twice", x.shut(1), Checks.STATE);
        Checks.due("shut 4", x.shut(4), Checks.UNKNOWN);
        Checks.due("shut -1", x.shut(-1), Checks.UNKNOWN);
        x.minutes(6);
        Checks.due("two are shut", x.many(4), 2);
        Checks.due("miles", x.ofRider(3, 5), 13);
        Checks.due("look 3", x.look(3), 1);
        Checks.due("gone no more", x.ofRider(3, 4), 0);
        Checks.due("in no land", x.ofRider(3, 6), Checks.NONE);
        Checks.due("look 3 twice", x.look(3), Checks.STATE);
        Checks.due("look 0", x.look(0), Checks.STATE);
        Checks.due("look 1 in none", x.look(1), Checks.NONE);
        Checks.due("look 4", x.look(4), Checks.UNKNOWN);
        Checks.due("look -1", x.look(-1), Checks.UNKNOWN);
        Checks.due("nobody", x.many(4), 0);
        Checks.due("shut again", x.shut(3), 1);
        Checks.due("for 0 minutes", x.ofRider(3, 8), 0);
    }

    private static RockingRiders told(int... pairs) {
        RockingRiders x = Checks.with(FOUR);
        Checks.row(x, 2, 2, pairs);
        return x;
    }

    private static void afternoonIsOnlyTold() {
        RockingRiders x = told(0, 0, 3, 0, 2, 2, 3, 1);
        Checks.due("told", x.afternoon(2, 2, 0, 4, 2), Checks.set(0));
        Checks.due("minute", x.many(3), 0);
        Checks.due("eyes", x.many(4), 0);
        Checks.due("gone", x.ofRider(0, 4), 0);
        Checks.due("told again", x.afternoon(2, 2, 0, 4, 10), 3);
    }

    private static void afternoonFromHowAllIs() {
        RockingRiders x = told(2, 2, 0, 1);
        x.shut(0);
        x.shut(3);
        x.minutes(1);
        x.wax(2);
        Checks.due("miles of 3", x.afternoon(2, 2, 0, 1, 13), 13);
        Checks.due("miles of 0", x.afternoon(2, 2, 0, 1, 10), 10);
        Checks.due("look of one who is shut", x.afternoon(2, 2, 0, 2, 2), Checks.set(3));
        Checks.due("lands", x.afternoon(2, 2, 0, 1, 3), Checks.set(0, 1));
        Checks.due("gone stays", x.ofRider(3, 4), 9);
        Checks.due("minutes shut stay", x.ofRider(3, 8), 1);
    }

    private static void afternoonAnswers() {
        // 1 goes for 7 minutes to land 0 and looks; 1 and 3 go for 5, then all look within 20
        RockingRiders x = told(1, 0, 7, 2, 1, 1, 1, 0, 3, 0, 5, 2, 20, 2);
        int[][] want = {
            // behind so many pairs: what 0, 1, 2, 3, 4, 10 .. 14
            {0, 0, -9, 0, 0, 0, 0, 0, 0, 0, -9},
            {1, 0, -9, 2, 0, 0, 0, 0, 0, 0, -9},
            {2, 1, -9, 2, 1, 0, 0, 5, 0, 0, -9},
            {3, 0, -9, 0, 1, 1, 0, 0, 0, 0, -9},
            {5, 0, -9, 10, 1, 1, 0, 0, 0, 0, -9},
            {6, 1, -9, 10, 1, 1, 0, 3, 0, 11, -9},
            {7, 0, -9, 0, 3, 3, 0, 0, 0, 0, -9},
        };
        int[] whats = {0, 1, 2, 3, 4, 10, 11, 12, 13, 14};
        for (int[] w : want) {
            for (int j = 0; j < whats.length; j++) {
                Checks.due("afternoon of " + w[0] + ", " + whats[j], x.afternoon(2, 2, 0, w[0], whats[j]), w[j + 1]);
            }
        }
        RockingRiders y = told(0, 0, 3, 0, 3, 2);
        Checks.due("two in lands", y.afternoon(2, 2, 0, 3, 0), 2);
        RockingRiders z = Checks.with("r1,01,02,03;c19");
        Checks.row(z, 2, 0, 0, 0, 3, 2, 0, 1);
        Checks.due("lands of minutes gone by", z.afternoon(2, 0, 0, 3, 3), Checks.set(0, 1, 2));
        Checks.due("in no land then", z.afternoon(2, 0, 0, 3, 0), 0);
    }

    private static void afternoonFirstWrong() {
        RockingRiders x = told(0, 0, 1, 2, 0, 0, 2, 1, 0, 1, 0, 1);
        Checks.due("none of two", x.afternoon(2, 2, 0, 2, 1), Checks.NONE);
        Checks.due("shuts twice", x.afternoon(2, 2, 0, 6, 1), 2);
        Checks.due("looks with open eyes", x.afternoon(2, 2, 6, 1, 1), 0);
        for (int what : new int[] {0, 2, 3, 4, 10, 13, 14}) {
            Checks.due("what " + what, x.afternoon(2, 2, 0, 6, what), -102);
            Checks.due("no fault", x.fault(), 0);
        }
        // he lasts 1 minute, so he has looked behind 2
        RockingRiders y = told(2, 0, 2, 2, 2, 1);
        Checks.due("looked already", y.afternoon(2, 2, 0, 3, 1), 2);
        y.shut(2);
        Checks.due("shut from the first", y.afternoon(2, 2, 0, 3, 1), 0);
        Checks.due("and told", y.afternoon(2, 2, 0, 3, 0), -100);
    }

    private static void afternoonOfNothing() {
        RockingRiders x = told(0, 2);
        x.shut(3);
        x.minutes(3);
        Checks.due("in a land", x.afternoon(2, 2, 2, 0, 0), 1);
        Checks.due("but no minute", x.afternoon(2, 2, 2, 0, 3), 0);
        Checks.due("nor in 0 minutes", x.afternoon(2, 2, 0, 1, 3), 0);
        Checks.due("nothing wrong", x.afternoon(2, 2, 2, 0, 1), Checks.NONE);
        Checks.due("shut", x.afternoon(2, 2, 2, 0, 2), Checks.set(3));
        Checks.due("miles", x.afternoon(2, 2, 2, 0, 13), 6);
    }

    private static void afternoonRefusals() {
        RockingRiders x = told(0, 0, 1, 2);
        int[][] calls = {
            // sheet, lane, i, n, what, what is due, the fault
            {-1, 2, 0, 1, 0, Checks.UNKNOWN, 0},
            {4, 9, 0, 1, 0, Checks.UNKNOWN, 0},
            {2, -1, 0, 1, 0, Checks.OUTSIDE, 0},
            {2, 3, 0, 1, 0, Checks.OUTSIDE, 0},
            {2, 1, 0, -1, 0, Checks.OUTSIDE, 0},
            {3, 2, 0, 21, 0, Checks.OUTSIDE, 0},
            {2, 2, 0, 1, -1, Checks.OUTSIDE, 0},
            {2, 2, 0, 1, 5, Checks.OUTSIDE, 0},
            {2, 2, 0, 1, 9, Checks.OUTSIDE, 0},
            {2, 1, 0, 1, 15, Checks.OUTSIDE, 0},
            {2, 1, -1, 1, 0, Checks.CAST, 2},
            {2, 0, 9, 1, 0, Checks.CAST, 2},
            {3, 2, -1, 1, 0, Checks.NULL, 1},
            {2, 2, -1, 0, 0, Checks.INDEX, 3},
            {2, 2, 5, 0, 0, Checks.INDEX, 3},
            {2, 2, 4, 0, 0, 0, 0},
            {2, 2, 4, 1, 0, Checks.INDEX, 3},
            {2, 2, 3, 1, 0, Checks.INDEX, 3},
            {2, 2, 0, 3, 0, Checks.INDEX, 3},
            {2, 2, 1, 2, 0, Checks.INDEX, 3},
            {2, 2, Integer.MAX_VALUE, 20, 0, Checks.INDEX, 3},
            {2, 2, 0, 2, 0, 0, 0},
        };
        for (int[] c : calls) {
            String what = "afternoon(" + c[0] + ", " + c[1] + ", " + c[2] + ", " + c[3] + ", " + c[4] + ")";
            Checks.due(what, x.afternoon(c[0], c[1], c[2], c[3], c[4]), c[5]);
            Checks.due("fault of " + what, x.fault(), c[6]);
        }
        RockingRiders none = new RockingRiders();
        Checks.row(none, 2, 2, 0, 0);
        Checks.due("OUTSIDE ahead of STATE", none.afternoon(2, 2, 0, 21, 0), Checks.OUTSIDE);
        Checks.due("STATE ahead of CAST", none.afternoon(2, 1, 0, 1, 0), Checks.STATE);
        Checks.due("STATE ahead of NULL", none.afternoon(3, 1, 0, 1, 0), Checks.STATE);
        Checks.due("no fault of it", none.fault(), 0);
    }

    private static void afternoonPairs() {
        pair(0, 3, Checks.OUTSIDE);
        pair(0, -1, Checks.OUTSIDE);
        pair(9, 3, Checks.OUTSIDE);
        pair(-1, 2, Checks.OUTSIDE);
        pair(21, 2, Checks.OUTSIDE);
        pair(20, 2, 0);
        pair(0, 2, 0);
        pair(4, 0, Checks.UNKNOWN);
        pair(-1, 0, Checks.UNKNOWN);
        pair(4, 1, Checks.UNKNOWN);
        pair(-1, 1, Checks.UNKNOWN);
        pair(3, 0, 0);
        pair(3, 1, -100);
        RockingRiders x = told(3, 1, 0, 3, 9, 0, 9, 1, 21, 2);
        Checks.due("all of them ahead of any act", x.afternoon(2, 2, 0, 2, 1), Checks.OUTSIDE);
        Checks.due("the first of two", x.afternoon(2, 2, 4, 3, 1), Checks.UNKNOWN);
        Checks.due("the other first", x.afternoon(2, 2, 2, 2, 1), Checks.OUTSIDE);
        Checks.due("no fault", x.fault(), 0);
    }

    private static void pair(int first, int second, int want) {
        RockingRiders x = told(first, second);
        Checks.due("pair " + first + " " + second, x.afternoon(2, 2, 0, 1, 0), want);
    }

    private static void longestAfternoon() {
        int[] pairs = new int[40];
        for (int pair = 0; pair < 20; pair++) {
            pairs[2 * pair] = pair % 2 == 0 ? 3 : 20;
            pairs[2 * pair + 1] = pair % 2 == 0 ? 0 : 2;
        }
        RockingRiders x = Checks.with(FOUR);
        Checks.row(x, 1, 0, pairs);
        Checks.due("looks of 20 pairs", x.afternoon(1, 0, 0, 20, 4), 10);
        Checks.due("lands of 20 pairs", x.afternoon(1, 0, 0, 20, 3), Checks.set(0, 1));
    }
}
