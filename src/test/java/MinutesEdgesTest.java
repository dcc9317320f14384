/**
 * Promises 7 to 10: for each sentence that names a boundary case a test of its own; its comment quotes the sentence.
 */
public final class MinutesEdgesTest {
    private static final int[] WHATS = {0, 1, 2, 3, 4, 10, 11, 12, 13, 14};

    public static void main(String[] args) {
        Edges.run(MinutesEdgesTest.class);
        Checks.end();
    }

    private static RockingRiders allShut(String text, int riders) {
        RockingRiders x = Checks.with(text);
        for (int k = 0; k < riders; k++) {
            Checks.due("shut " + k, x.shut(k), k + 1);
        }
        return x;
    }

    // ---- promise 7

    /** Promise 7: "n MINUTES (1 .. 99) go by": the fewest, the most. */
    private static void promise07OneTo99() {
        RockingRiders x = Edges.five();
        Checks.due("1", x.minutes(1), 0);
        Checks.due("one minute", x.many(3), 1);
        Checks.due("he has gone one pace", x.ofRider(4, 4), 10);
        Checks.due("99", x.minutes(99), 1);
        Checks.due("a hundred", x.many(3), 100);
        Checks.due("no fault is named", x.fault(), Edges.LEFT);
    }

    /** Promise 7: "how many LOOK in them": nobody, one, all. */
    private static void promise07HowManyLook() {
        RockingRiders x = Checks.with(Edges.FIVE);
        Checks.due("nobody's are shut", x.minutes(99), 0);
        RockingRiders y = allShut(Edges.FIVE, 5);
        Checks.due("nobody yet", y.minutes(1), 0);
        Checks.due("the first", y.minutes(1), 1);
        Checks.due("all others", y.minutes(99), 4);
        Checks.due("nobody any more", y.minutes(99), 0);
        Checks.due("all", allShut(Edges.FIVE, 5).minutes(10), 5);
        Checks.due("all but the last", allShut(Edges.FIVE, 5).minutes(9), 4);
    }

    /**
     * Promise 7, Terms: "if they were so for as many MINUTES as he LASTS, he LOOKS": one more than the least LASTS.
     */
    private static void promise07LastsOne() {
        RockingRiders x = allShut("r1,55;c51", 1);
        Checks.due("as many", x.minutes(1), 0);
        Checks.due("shut still", x.ofRider(0, 7), 1);
        Checks.due("has gone", x.ofRider(0, 4), 5);
        Checks.due("one more", x.minutes(1), 1);
        Checks.due("shut no more", x.ofRider(0, 7), 0);
    }

    /** Promise 7, Terms: "if they were so for as many MINUTES as he LASTS, he LOOKS": one more than the most. */
    private static void promise07LastsNine() {
        RockingRiders x = allShut("r1,55;c59", 1);
        Checks.due("as many", x.minutes(9), 0);
        Checks.due("shut still", x.ofRider(0, 7), 1);
        Checks.due("has gone", x.ofRider(0, 4), 45);
        Checks.due("one more", x.minutes(1), 1);
        Checks.due("shut no more", x.ofRider(0, 7), 0);
    }

    /**
     * Promise 7, Terms: "if they were so for as many MINUTES as he LASTS": counted anew whenever he SHUTS his eyes.
     */
    private static void promise07LastsAnew() {
        RockingRiders x = allShut("r1,55;c52", 1);
        x.minutes(1);
        x.look(0);
        x.shut(0);
        Checks.due("as many", x.minutes(2), 0);
        Checks.due("one more", x.minutes(1), 1);
        x.shut(0);
        Checks.due("as many again", x.minutes(2), 0);
        Checks.due("one more again", x.minutes(1), 1);
    }

    /** Promise 7, Terms: "One LOOKS: his eyes are not SHUT any more, he has GONE 0": all he has GONE is lost. */
    private static void promise07LooksAndAllIsLost() {
        RockingRiders x = allShut("r1,01;u91;c99", 2);
        x.minutes(1);
        Checks.due("has gone", x.ofRider(0, 4), 20);
        Checks.due("in a land", x.ofRider(0, 6), 0);
        x.minutes(1);
        Checks.due("gone 0", x.ofRider(0, 4), 0);
        Checks.due("in none", x.ofRider(0, 6), Checks.NONE);
        Checks.due("but not of another", x.ofRider(1, 4), 18);
    }

    /** Promise 7, Terms: "A MINUTE: of each whose eyes are SHUT": of the others nothing. */
    private static void promise07OfEachWhoseEyesAreShut() {
        RockingRiders x = Edges.five();
        x.minutes(2);
        for (int k = 0; k < 4; k++) {
            Checks.due("gone of " + k, x.ofRider(k, 4), 0);
            Checks.due("minutes of " + k, x.ofRider(k, 8), 0);
        }
        Checks.due("gone of 4", x.ofRider(4, 4), 20);
    }

    /** Promise 7, Terms: "else he has GONE by PACE more": by the PACE of that minute. */
    private static void promise07GoneByPace() {
        RockingRiders x = allShut("r1,55;c19;m19;u19", 3);
        x.minutes(1);
        int[] paces = {1, 2, 4};
        for (int k = 0; k < 3; k++) {
            Checks.due("one minute of " + k, x.ofRider(k, 4), paces[k]);
            x.lean(k, 9);
        }
        x.minutes(1);
        int[] more = {9, 10, 20};
        for (int k = 0; k < 3; k++) {
            Checks.due("two minutes of " + k, x.ofRider(k, 4), paces[k] + more[k]);
        }
    }

    /** Promise 7: "OUTSIDE": too small, too large. */
    private static void promise07Outside() {
        for (int n : new int[] {0, -1, 100, Edges.LEAST, Edges.MOST}) {
            Edges.same("n " + n, Edges::rich, x -> x.minutes(n), Checks.OUTSIDE);
        }
    }

    /** Promise 7: "STATE: there is no NURSERY": then it stays MINUTE 0. */
    private static void promise07State() {
        Edges.same("n 1", Edges::bare, x -> x.minutes(1), Checks.STATE);
        Edges.same("n 99", Edges::bare, x -> x.minutes(99), Checks.STATE);
    }

    /** Promise 7: "OUTSIDE; STATE: there is no NURSERY": in this order. */
    private static void promise07Order() {
        Edges.same("n 0", Edges::bare, x -> x.minutes(0), Checks.OUTSIDE);
        Edges.same("n 100", Edges::bare, x -> x.minutes(100), Checks.OUTSIDE);
    }

    // ---- promise 8

    /** Promise 8: "A RIDER SHUTS his eyes: of how many RIDERS the eyes are SHUT then": the first, all. */
    private static void promise08OfHowMany() {
        RockingRiders x = Checks.with(Edges.FIVE);
        for (int k = 4; k >= 0; k--) {
            Checks.due("shut " + k, x.shut(k), 5 - k);
            Checks.due("his are", x.ofRider(k, 7), 1);
        }
        x.minutes(2);
        Checks.due("again, of one who looked", x.shut(0), 5);
        Checks.due("no fault", x.fault(), 0);
    }

    /**
     * Promise 8, Terms: "A RIDER SHUTS his eyes (they are not)": from 0 MINUTES and GONE 0 on, also when he looked.
     */
    private static void promise08From0On() {
        RockingRiders x = Checks.with("r1,01;c52");
        x.minutes(5);
        x.shut(0);
        Checks.due("minutes", x.ofRider(0, 8), 0);
        x.minutes(2);
        x.look(0);
        x.shut(0);
        Checks.due("minutes again", x.ofRider(0, 8), 0);
        Checks.due("gone again", x.ofRider(0, 4), 0);
        x.minutes(3);
        x.shut(0);
        Checks.due("minutes a third time", x.ofRider(0, 8), 0);
        Checks.due("gone a third time", x.ofRider(0, 4), 0);
    }

    /** Promise 8: "UNKNOWN": there is no such RIDER. */
    private static void promise08Unknown() {
        Edges.noRider((x, k) -> x.shut(k), Checks.UNKNOWN);
    }

    /** Promise 8: "STATE: they are": just SHUT, and as long as he LASTS. */
    private static void promise08State() {
        Edges.same("for one minute", Edges::rich, x -> x.shut(1), Checks.STATE);
        Edges.same("as long as he lasts", Edges::rich, x -> x.shut(0), Checks.STATE);
        Edges.same("just shut", Edges::five, x -> x.shut(4), Checks.STATE);
    }

    // ---- promise 9

    /** Promise 9: "A RIDER LOOKS: in which LAND he was": the first one, the last one. */
    private static void promise09InWhichLand() {
        RockingRiders x = allShut("r1,01,02,03,04,05;c19;c59", 2);
        x.minutes(1);
        Checks.due("the first", x.look(0), 0);
        Checks.due("the last", x.look(1), 4);
        Checks.due("no fault", x.fault(), 0);
    }

    /** Promise 9: "NONE". Promise 9, Terms: "NONE is -9": he was in none, at once or a mile short of one. */
    private static void promise09None() {
        RockingRiders x = allShut("r1,02;c19;c19", 2);
        Checks.due("at once", x.look(0), Checks.NONE);
        x.minutes(1);
        Checks.due("a mile short", x.look(1), Checks.NONE);
        x.shut(1);
        x.minutes(2);
        Checks.due("there", x.look(1), 0);
    }

    /** Promise 9, Terms: "his eyes are not SHUT any more, he has GONE 0": of him alone. */
    private static void promise09AllIsLost() {
        RockingRiders x = Edges.rich();
        Checks.due("look", x.look(3), 0);
        Checks.due("eyes", x.ofRider(3, 7), 0);
        Checks.due("minutes", x.ofRider(3, 8), 0);
        Checks.due("gone", x.ofRider(3, 4), 0);
        Checks.due("land", x.ofRider(3, 6), Checks.NONE);
        Checks.due("another's eyes", x.ofRider(0, 7), 1);
        Checks.due("another's gone", x.ofRider(0, 4), 21);
        Checks.due("two are left", x.many(4), 2);
    }

    /** Promise 9: "UNKNOWN": there is no such RIDER. */
    private static void promise09Unknown() {
        Edges.noRider((x, k) -> x.look(k), Checks.UNKNOWN);
    }

    /** Promise 9: "STATE: his eyes are not SHUT": never yet, or not any more. */
    private static void promise09State() {
        Edges.same("never yet", Edges::rich, x -> x.look(2), Checks.STATE);
        RockingRiders x = Edges.rich();
        x.look(3);
        Checks.due("looked", x.look(3), Checks.STATE);
        Checks.due("looks by himself", x.minutes(1), 1);
        Checks.due("looked by himself", x.look(0), Checks.STATE);
    }

    // ---- promise 10: what is told

    /** FOUR from its beginning, an afternoon's pairs in sheet 2. */
    private static RockingRiders toTell(int... pairs) {
        RockingRiders x = Checks.with(Edges.FOUR);
        Checks.row(x, 2, 2, pairs);
        return x;
    }

    private static void told(int what, int want, int... pairs) {
        RockingRiders x = toTell(pairs);
        Checks.due("what " + what, x.afternoon(2, 2, 0, pairs.length / 2, what), want);
        Checks.due("fault of it", x.fault(), 0);
    }

    /** Promise 10: "An AFTERNOON of n pairs, that are cells of a SHEET from i on (2 n)": those, and no others. */
    private static void promise10NPairsFromIOn() {
        RockingRiders x = toTell(9, 0, 0, 3, 0, 1, 0, 9);
        Checks.due("of none", x.afternoon(2, 2, 0, 0, 2), 0);
        Checks.due("of the first cells", x.afternoon(2, 2, 0, 1, 2), Checks.UNKNOWN);
        Checks.due("from 1 on", x.afternoon(2, 2, 1, 1, 2), Checks.set(0));
        Checks.due("from 1 on, two", x.afternoon(2, 2, 1, 2, 2), Checks.set(0, 3));
        Checks.due("from 2 on", x.afternoon(2, 2, 2, 1, 2), Checks.OUTSIDE);
        Checks.due("from 3 on", x.afternoon(2, 2, 3, 1, 2), Checks.set(3));
        Checks.due("of the last cells", x.afternoon(2, 2, 6, 1, 2), Checks.OUTSIDE);
    }

    /** Promise 10: "An AFTERNOON of n pairs": of each LANE; a byte's -1 is -1. */
    private static void promise10OfALane() {
        for (int lane = 0; lane <= 2; lane++) {
            RockingRiders x = Checks.with(Edges.FOUR);
            Checks.row(x, lane, lane, 3, 0, 255, 2);
            Checks.due("lane " + lane, x.afternoon(lane, lane, 0, 1, 2), Checks.set(3));
            Checks.due("255", x.afternoon(lane, lane, 2, 1, 2), Checks.OUTSIDE);
        }
    }

    /** Promise 10: "n (0 .. 20)": none, with which all is as it is. */
    private static void promise10NoPairs() {
        RockingRiders x = Edges.rich();
        int[] want = {2, Checks.NONE, Checks.set(0, 1, 3), 0, 0, 5, 0, 0, 6, Checks.NONE};
        for (int j = 0; j < WHATS.length; j++) {
            Checks.due("what " + WHATS[j], x.afternoon(1, 1, 6, 0, WHATS[j]), want[j]);
        }
        x.sheet(3, 0, 0);
        Checks.due("of an empty row", x.afternoon(3, 0, 0, 0, 0), 2);
    }

    /** Promise 10: "n (0 .. 20)": twenty, of a SHEET's first cells and of its last. */
    private static void promise10TwentyPairs() {
        int[] pairs = new int[60];
        for (int pair = 0; pair < 30; pair++) {
            pairs[2 * pair] = pair % 2 == 0 ? 3 : 20;
            pairs[2 * pair + 1] = pair % 2 == 0 ? 0 : 2;
        }
        RockingRiders x = toTell(pairs);
        Checks.due("the first cells", x.afternoon(2, 2, 0, 20, 4), 10);
        Checks.due("the last cells", x.afternoon(2, 2, 20, 20, 4), 10);
        Checks.due("a pair beyond", x.afternoon(2, 2, 22, 20, 4), Checks.INDEX);
    }

    /** Promise 10: "how many are IN any LAND behind it (what 0)": nobody, all. */
    private static void promise10HowManyAreInAny() {
        told(0, 0, 3, 0, 2, 2);
        told(0, 1, 3, 0, 3, 2);
        told(0, 2, 3, 0, 0, 0, 3, 2);
        RockingRiders x = Checks.with("r1,01,02,03,04,05;c19;c29;c39;c49;c59");
        Checks.row(x, 2, 2, 0, 0, 1, 0, 2, 0, 3, 0, 4, 0, 1, 2, 9, 2);
        Checks.due("all, in a land each", x.afternoon(2, 2, 0, 6, 0), 5);
        Checks.due("nobody any more", x.afternoon(2, 2, 0, 7, 0), 0);
    }

    /**
     * Promise 10: "its FIRST WRONG (1; NONE)". Promise 10, Terms: "FIRST WRONG: the first act that can't be (told by
     * the number of its pair, from 0 on)".
     */
    private static void promise10FirstWrong() {
        told(1, Checks.NONE);
        told(1, Checks.NONE, 0, 0, 20, 2, 0, 0);
        told(1, 0, 0, 1);
        told(1, 1, 0, 0, 0, 0, 0, 0);
        int[] pairs = new int[40];
        for (int pair = 0; pair < 18; pair++) {
            pairs[2 * pair + 1] = 2;
        }
        told(1, 19, pairs);
    }

    /** Promise 10, Terms: "a RIDER and 0: he SHUTS his eyes": can't be, if they are SHUT. */
    private static void promise10ShutsTwice() {
        told(1, 1, 3, 0, 3, 0);
        told(1, Checks.NONE, 3, 0, 2, 0);
        told(1, Checks.NONE, 3, 0, 3, 1, 3, 0);
        told(1, 2, 0, 0, 3, 2, 0, 0);
        told(1, Checks.NONE, 0, 0, 4, 2, 0, 0);
        RockingRiders x = Edges.rich();
        Checks.row(x, 1, 1, 2, 0, 1, 0);
        Checks.due("shut ahead of it", x.afternoon(1, 1, 0, 2, 1), 1);
    }

    /** Promise 10, Terms: "and 1: he LOOKS (they are SHUT)": can't be, if they are not. */
    private static void promise10LooksTwice() {
        told(1, 0, 3, 1);
        told(1, 1, 3, 0, 2, 1);
        told(1, 2, 3, 0, 3, 1, 3, 1);
        told(1, Checks.NONE, 0, 0, 3, 2, 0, 1);
        told(1, 2, 0, 0, 4, 2, 0, 1);
        RockingRiders x = Edges.rich();
        Checks.row(x, 1, 1, 1, 1, 2, 1);
        Checks.due("not shut ahead of it", x.afternoon(1, 1, 0, 2, 1), 1);
    }

    /** Promise 10, Terms: "0 .. 20 and 2: so many MINUTES": none, twenty. */
    private static void promise10NoMinutesAndTwenty() {
        told(13, 0, 3, 0, 0, 2);
        told(13, 2, 3, 0, 1, 2);
        told(13, 20, 3, 0, 9, 2);
        told(2, 0, 3, 0, 20, 2);
        told(4, 0, 3, 0, 9, 2);
        told(4, 1, 3, 0, 10, 2);
        told(4, 1, 3, 0, 20, 2);
        told(2, Checks.set(3), 20, 2, 3, 0);
    }

    /**
     * Promise 10, Terms: "An AFTERNOON told: a row of pairs, one behind another, from how all is now (nothing is
     * changed)": from how all is.
     */
    private static void promise10FromHowAllIs() {
        RockingRiders x = Edges.rich();
        Checks.due("miles of 3", x.afternoon(1, 1, 0, 2, 13), 18);
        Checks.due("0 looked, for he lasts no longer", x.afternoon(1, 1, 0, 2, 10), 0);
        Checks.due("2 had shut his eyes", x.afternoon(1, 1, 0, 2, 4), 2);
        Checks.due("1 is left", x.afternoon(1, 1, 0, 2, 2), Checks.set(1, 3));
        Checks.due("and 3 looks", x.afternoon(1, 1, 0, 3, 2), Checks.set(1));
        x.wax(9);
        x.lean(3, 1);
        Checks.due("by creaks and lean as they are", x.afternoon(1, 1, 0, 2, 13), (27 + 5) / 9);
    }

    /** Promise 10, Terms: "from how all is now (nothing is changed)": by none of its answers. */
    private static void promise10NothingIsChanged() {
        int[] want = {1, Checks.NONE, Checks.set(1, 3), Checks.set(0, 1), 2, 0, 4, 0, 18, Checks.NONE};
        for (int j = 0; j < WHATS.length; j++) {
            int what = WHATS[j];
            Edges.sameWithFault("what " + what, Edges::rich, x -> x.afternoon(1, 1, 0, 2, what), want[j], 0);
        }
    }

    /** Promise 10, Terms: "from how all is now (nothing is changed)": nor by one with a FIRST WRONG. */
    private static void promise10NothingIsChangedByAWrong() {
        RockingRiders x = Edges.rich();
        Checks.row(x, 1, 1, 5, 2, 3, 0);
        Checks.due("a wrong", x.afternoon(1, 1, 0, 2, 0), -101);
        Checks.due("gone", x.ofRider(3, 4), 27);
        Checks.due("eyes", x.many(4), 3);
        Checks.due("minute", x.many(3), 3);
    }

    /**
     * Promise 10: "whose eyes are SHUT then, as a set (2)". Promise 10, Terms: "Sets are told as bits (bit k for
     * number k)": nobody, the first, the last, all.
     */
    private static void promise10WhoseEyesAreShut() {
        told(2, 0, 5, 2);
        told(2, 1, 0, 0);
        RockingRiders x = Edges.five();
        Checks.row(x, 1, 0, 0, 0, 1, 0, 2, 0, 3, 0, 4, 1);
        Checks.due("the last", x.afternoon(1, 0, 0, 0, 2), 16);
        Checks.due("all", x.afternoon(1, 0, 0, 4, 2), 31);
        Checks.due("all but the last", x.afternoon(1, 0, 0, 5, 2), 15);
    }

    /**
     * Promise 10: "LANDS in which anybody is behind any of its MINUTES, as a set (3)": of each MINUTE, though it is
     * lost behind it.
     */
    private static void promise10LandsBehindAnyMinute() {
        RockingRiders x = Checks.with("r1,01,02,03,05,04;c19;c39");
        Checks.row(x, 2, 2, 0, 0, 3, 2, 0, 1, 1, 0, 1, 2, 0, 0, 5, 2);
        int[] want = {0, 0, 7, 7, 7, 7, 7, 31};
        for (int n = 0; n < want.length; n++) {
            Checks.due("of " + n, x.afternoon(2, 2, 0, n, 3), want[n]);
        }
        Checks.row(x, 2, 2, 1, 0, 20, 2);
        Checks.due("looked within", x.afternoon(2, 2, 0, 2, 3), Checks.set(2, 3));
        told(3, Checks.set(0), 0, 0, 3, 0, 3, 2);
    }

    /**
     * Promise 10: "LANDS in which anybody is behind any of its MINUTES": of no MINUTE none, though somebody is in
     * one.
     */
    private static void promise10LandsBehindNoMinute() {
        RockingRiders x = Edges.rich();
        Checks.row(x, 1, 1, 0, 2, 1, 2);
        Checks.due("somebody is", x.afternoon(1, 1, 0, 0, 0), 2);
        Checks.due("no pair", x.afternoon(1, 1, 0, 0, 3), 0);
        Checks.due("no minute", x.afternoon(1, 1, 0, 1, 3), 0);
        Checks.due("one minute", x.afternoon(1, 1, 0, 2, 3), 1);
    }

    /** Promise 10: "how often one LOOKS in it (4)": never, by an act, by a MINUTE, one and the same again. */
    private static void promise10HowOftenOneLooks() {
        told(4, 0);
        told(4, 0, 0, 0, 3, 2);
        told(4, 1, 0, 0, 4, 2);
        told(4, 1, 0, 0, 0, 1);
        told(4, 3, 2, 0, 2, 2, 2, 0, 2, 2, 2, 0, 2, 1);
        told(4, 4, 0, 0, 1, 0, 2, 0, 3, 0, 10, 2);
        RockingRiders x = Edges.rich();
        Checks.row(x, 1, 1, 1, 2);
        Checks.due("shut ahead of it", x.afternoon(1, 1, 0, 1, 4), 1);
    }

    /** Promise 10: "MILES of RIDER k then (10 and k": of the first, of the last of five. */
    private static void promise10MilesOfARider() {
        RockingRiders x = Edges.five();
        Checks.row(x, 1, 0, 0, 0, 1, 2, 8, 2);
        Checks.due("the first", x.afternoon(1, 0, 0, 2, 10), 1);
        Checks.due("the last", x.afternoon(1, 0, 0, 2, 14), 10);
        Checks.due("the first looked", x.afternoon(1, 0, 0, 3, 10), 0);
        Checks.due("the last lasts", x.afternoon(1, 0, 0, 3, 14), 90);
        x.wax(7);
        Checks.due("cut", x.afternoon(1, 0, 0, 3, 14), 12);
    }

    /** Promise 10: "NONE: there is no such one)": of RIDER 4 of four, of RIDER 1 of one. */
    private static void promise10MilesOfNobody() {
        told(14, Checks.NONE, 3, 0, 9, 2);
        RockingRiders x = Checks.with("r1,01;c11");
        for (int k = 1; k <= 4; k++) {
            Checks.due("of " + k, x.afternoon(0, 0, 0, 0, 10 + k), Checks.NONE);
        }
        Checks.due("no fault", x.fault(), 0);
    }

    /** Promise 10: "of one with a FIRST WRONG: -100 less that (but what 1)": whatever is asked, also of nobody. */
    private static void promise10OneWithAFirstWrong() {
        for (int what : WHATS) {
            told(what, what == 1 ? 0 : -100, 0, 1);
            told(what, what == 1 ? 2 : -102, 0, 0, 20, 2, 0, 1, 0, 1);
            int[] last = new int[40];
            for (int pair = 0; pair < 19; pair++) {
                last[2 * pair + 1] = 2;
            }
            last[39] = 1;
            told(what, what == 1 ? 19 : -119, last);
        }
    }

    // ---- promise 10: refusals and faults

    /** Promise 10: "UNKNOWN: SHEET". */
    private static void promise10UnknownSheet() {
        Edges.noSheet((x, k) -> x.afternoon(k, 1, 0, 1, 0), Checks.UNKNOWN);
    }

    /** Promise 10: "OUTSIDE: lane": too small, too large. */
    private static void promise10OutsideLane() {
        for (int lane : new int[] {-1, 3, Edges.LEAST, Edges.MOST}) {
            refused("lane " + lane, x -> x.afternoon(1, lane, 0, 1, 0), Checks.OUTSIDE, 0);
        }
    }

    /** Promise 10: "n (0 .. 20)": too small, too large; 20 is not, but so many cells are not there. */
    private static void promise10OutsideN() {
        for (int n : new int[] {-1, 21, 30, 1 << 30, Edges.LEAST, Edges.MOST}) {
            refused("n " + n, x -> x.afternoon(1, 1, 0, n, 0), Checks.OUTSIDE, 0);
        }
        refused("n 20", x -> x.afternoon(1, 1, 0, 20, 0), Checks.INDEX, 3);
    }

    /** Promise 10: "what (0 .. 4, 10 .. 14)": too small, too large, between. */
    private static void promise10OutsideWhat() {
        for (int what : new int[] {-1, 5, 6, 7, 8, 9, 15, 16, Edges.LEAST, Edges.MOST}) {
            refused("what " + what, x -> x.afternoon(1, 1, 0, 1, what), Checks.OUTSIDE, 0);
        }
    }

    /** Promise 10: "STATE: there is no NURSERY". */
    private static void promise10State() {
        for (int what : WHATS) {
            Edges.sameWithFault("what " + what, Edges::bare, x -> x.afternoon(1, 1, 0, 0, what), Checks.STATE, 0);
        }
    }

    /**
     * Promise 10: "CAST": another lane, below it and above it. Promise 10, Terms: "2 CAST (it is of another LANE".
     */
    private static void promise10Cast() {
        refused("shorts as bytes", x -> x.afternoon(1, 0, 0, 1, 0), Checks.CAST, 2);
        refused("shorts as ints", x -> x.afternoon(1, 2, 0, 0, 0), Checks.CAST, 2);
        refused("bytes as shorts", x -> x.afternoon(0, 1, 0, 0, 0), Checks.CAST, 2);
        refused("ints as bytes", x -> x.afternoon(2, 0, 0, 0, 0), Checks.CAST, 2);
    }

    /**
     * Promise 10: "NULL": whatever the lane. Promise 10, Terms: "FAULTS are the machine's: 1 NULL (there is
     * nothing)".
     */
    private static void promise10Null() {
        for (int lane = 0; lane <= 2; lane++) {
            int as = lane;
            refused("lane " + lane, x -> x.afternoon(3, as, 0, 0, 0), Checks.NULL, 1);
        }
    }

    /** Promise 10: "INDEX": a cell that is not there, ahead of the row or beyond it. */
    private static void promise10Index() {
        int[][] calls = {{-1, 1}, {Edges.LEAST, 1}, {0, 4}, {1, 3}, {5, 1}, {6, 1}, {7, 1}, {Edges.MOST, 20},
            {Edges.MOST - 1, 1}};
        for (int[] c : calls) {
            refused("from " + c[0] + " on, of " + c[1], x -> x.afternoon(1, 1, c[0], c[1], 0), Checks.INDEX, 3);
        }
        refused("to the last cell", x -> x.afternoon(1, 1, 0, 3, 1), Checks.NONE, 0);
    }

    /**
     * Promise 10, Terms: "of cells from i on also where i is not 0 .. how many there are, if none of them is taken,
     * too".
     */
    private static void promise10IndexOfNone() {
        for (int i : new int[] {-1, 7, Edges.LEAST, Edges.MOST}) {
            refused("none from " + i, x -> x.afternoon(1, 1, i, 0, 0), Checks.INDEX, 3);
        }
        refused("none from 0", x -> x.afternoon(1, 1, 0, 0, 0), 2, 0);
        refused("none from 6", x -> x.afternoon(1, 1, 6, 0, 0), 2, 0);
    }

    private static void refused(String what, Edges.Call call, long want, int fault) {
        Edges.sameWithFault(what, Edges::rich, call, want, fault);
    }

    private static void pairRefused(int first, int second, int want) {
        Edges.sameWithFault("pair " + first + " " + second, () -> toTell(first, second),
            x -> x.afternoon(2, 2, 0, 1, 1), want, 0);
    }

    /** Promise 10: "OUTSIDE: the second is none of 0 .. 2": too small, too large. */
    private static void promise10TheSecond() {
        for (int second : new int[] {-1, 3, 4, Edges.LEAST, Edges.MOST}) {
            pairRefused(0, second, Checks.OUTSIDE);
        }
        pairRefused(0, 0, Checks.NONE);
        pairRefused(0, 1, 0);
        pairRefused(0, 2, Checks.NONE);
    }

    /** Promise 10: "it is 2 and the first is not 0 .. 20": too small, too large. */
    private static void promise10TheFirstOfMinutes() {
        for (int first : new int[] {-1, 21, 99, Edges.LEAST, Edges.MOST}) {
            pairRefused(first, 2, Checks.OUTSIDE);
        }
        pairRefused(0, 2, Checks.NONE);
        pairRefused(20, 2, Checks.NONE);
    }

    /** Promise 10: "UNKNOWN: the first is no RIDER (of 0, 1)": below, beyond; 2 asks for none. */
    private static void promise10TheFirstIsNoRider() {
        for (int first : new int[] {-1, 4, 5, 20, Edges.LEAST, Edges.MOST}) {
            pairRefused(first, 0, Checks.UNKNOWN);
            pairRefused(first, 1, Checks.UNKNOWN);
        }
        pairRefused(3, 0, Checks.NONE);
        pairRefused(3, 1, 0);
        pairRefused(4, 2, Checks.NONE);
    }

    /**
     * Promise 10: "pair by pair (all of them, ahead of any act)": ahead of a FIRST WRONG, and the first of several.
     */
    private static void promise10PairByPair() {
        told(1, Checks.OUTSIDE, 0, 1, 0, 3);
        told(0, Checks.OUTSIDE, 0, 1, 21, 2);
        told(1, Checks.UNKNOWN, 0, 1, 4, 0);
        told(0, Checks.UNKNOWN, 4, 0, 0, 3);
        told(0, Checks.OUTSIDE, 0, 3, 4, 0);
        told(0, Checks.OUTSIDE, 21, 2, 4, 1);
        told(0, Checks.UNKNOWN, 4, 1, 21, 2);
        int[] pairs = new int[40];
        pairs[1] = 1;
        pairs[38] = 4;
        told(1, Checks.UNKNOWN, pairs);
    }

    /**
     * Promise 10: "OUTSIDE: the second is none of 0 .. 2, it is 2 and the first is not 0 .. 20; UNKNOWN: the first is
     * no RIDER": of one pair OUTSIDE first.
     */
    private static void promise10OrderInAPair() {
        pairRefused(9, 3, Checks.OUTSIDE);
        pairRefused(-1, -1, Checks.OUTSIDE);
        pairRefused(-1, 2, Checks.OUTSIDE);
    }

    /**
     * Promise 10: "UNKNOWN: SHEET; OUTSIDE: lane, n (0 .. 20), what (0 .. 4, 10 .. 14); STATE: there is no NURSERY;
     * CAST; NULL; INDEX; pair by pair": in this order.
     */
    private static void promise10Order() {
        refused("no sheet, no lane", x -> x.afternoon(4, 3, -1, 21, 5), Checks.UNKNOWN, 0);
        refused("no sheet, n beyond", x -> x.afternoon(4, 1, -1, 21, 5), Checks.UNKNOWN, 0);
        refused("no sheet, what beyond", x -> x.afternoon(4, 1, 0, 1, 5), Checks.UNKNOWN, 0);
        refused("no lane, i below", x -> x.afternoon(1, 3, -1, 1, 0), Checks.OUTSIDE, 0);
        refused("n beyond, another lane", x -> x.afternoon(1, 0, 0, 21, 0), Checks.OUTSIDE, 0);
        refused("n below, nothing", x -> x.afternoon(3, 0, 0, -1, 0), Checks.OUTSIDE, 0);
        refused("what beyond, nothing", x -> x.afternoon(3, 0, 0, 1, 15), Checks.OUTSIDE, 0);
        refused("what beyond, i below", x -> x.afternoon(1, 1, -1, 1, 15), Checks.OUTSIDE, 0);
        refused("another lane, i below", x -> x.afternoon(1, 0, -1, 1, 0), Checks.CAST, 2);
        refused("nothing, i below", x -> x.afternoon(3, 0, -1, 1, 0), Checks.NULL, 1);
        Edges.sameWithFault("i beyond, no rider", () -> toTell(4, 0), x -> x.afternoon(2, 2, 0, 2, 1), Checks.INDEX, 3);
    }

    /** Promise 10: "STATE: there is no NURSERY": behind OUTSIDE and UNKNOWN, ahead of faults and pairs. */
    private static void promise10OrderOfState() {
        Edges.Maker bare = Edges::bare;
        Edges.sameWithFault("no sheet", bare, x -> x.afternoon(4, 1, 0, 1, 0), Checks.UNKNOWN, 0);
        Edges.sameWithFault("no lane", bare, x -> x.afternoon(1, 3, 0, 1, 0), Checks.OUTSIDE, 0);
        Edges.sameWithFault("n beyond", bare, x -> x.afternoon(1, 1, 0, 21, 0), Checks.OUTSIDE, 0);
        Edges.sameWithFault("what beyond", bare, x -> x.afternoon(1, 1, 0, 1, 5), Checks.OUTSIDE, 0);
        Edges.sameWithFault("another lane", bare, x -> x.afternoon(1, 0, 0, 1, 0), Checks.STATE, 0);
        Edges.sameWithFault("nothing", bare, x -> x.afternoon(3, 0, 0, 1, 0), Checks.STATE, 0);
        Edges.sameWithFault("i below", bare, x -> x.afternoon(1, 1, -1, 1, 0), Checks.STATE, 0);
        Edges.sameWithFault("no rider", bare, x -> x.afternoon(1, 1, 0, 1, 0), Checks.STATE, 0);
    }
}
