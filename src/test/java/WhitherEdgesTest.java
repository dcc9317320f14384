/**
 * Promises 11 to 15: for each sentence that names a boundary case a test of its own; its comment quotes the sentence.
 */
public final class WhitherEdgesTest {
    public static void main(String[] args) {
        Edges.run(WhitherEdgesTest.class);
        Checks.end();
    }

    private static RockingRiders allShut(String text) {
        RockingRiders x = Checks.with(text);
        for (int k = 0; k < x.many(1); k++) {
            x.shut(k);
        }
        return x;
    }

    private static void comes(String text, int want) {
        Checks.due("comes by " + text, Checks.with(text).comes(0, 0), want);
    }

    // ---- promise 11

    /**
     * Promise 11: "COMES". Promise 11, Terms: "his MILES are first no less than it is FAR": as FAR, more, a mile
     * less.
     */
    private static void promise11FirstNoLess() {
        comes("r1,06;c39", 2);
        comes("r1,05;c39", 2);
        comes("r1,07;c39", 3);
        comes("r1,01;c99", 1);
        comes("r1,09;c99", 1);
        comes("r1,10;c99", 2);
    }

    /** Promise 11, Terms: "Quotients are cut": his MILES are, when he COMES. */
    private static void promise11MilesAreCut() {
        comes("r9,01;c89", 2);
        comes("r9,02;c89", 3);
        comes("r9,08;c89", 9);
        comes("r8,09;c89", 9);
        comes("r9,09;c89", Checks.NONE);
    }

    /**
     * Promise 11: "NONE". Promise 11, Terms: "NONE, if they never are while he LASTS": in the last of his MINUTES, or
     * one behind it.
     */
    private static void promise11WhileHeLasts() {
        comes("r1,01;c11", 1);
        comes("r1,02;c11", Checks.NONE);
        comes("r1,09;c19", 9);
        comes("r1,10;c19", Checks.NONE);
        comes("r1,99;u99", 5);
        comes("r1,99;u94", Checks.NONE);
        comes("r1,99;u95", 5);
        comes("r9,99;c11", Checks.NONE);
    }

    /**
     * Promise 11, Terms: "COMES of a RIDER to a LAND: behind how many MINUTES of SHUT eyes, from the nursery on":
     * however far he is now.
     */
    private static void promise11FromTheNurseryOn() {
        RockingRiders x = allShut("r1,05;c19");
        Checks.due("just shut", x.comes(0, 0), 5);
        x.minutes(9);
        Checks.due("he is there", x.comes(0, 0), 5);
        x.minutes(1);
        Checks.due("he looked", x.comes(0, 0), 5);
    }

    /** Promise 11: "COMES": of the first and the last RIDER, to the first and the last LAND; nothing is changed. */
    private static void promise11FirstAndLast() {
        Edges.same("0 to 0", Edges::five, x -> x.comes(0, 0), 1);
        Edges.same("0 to 4", Edges::five, x -> x.comes(0, 4), Checks.NONE);
        Edges.same("4 to 0", Edges::five, x -> x.comes(4, 0), 1);
        Edges.same("1 to 4", Edges::five, x -> x.comes(1, 4), 2);
    }

    /** Promise 11: "UNKNOWN: RIDER". */
    private static void promise11UnknownRider() {
        Edges.noRider((x, k) -> x.comes(k, 0), Checks.UNKNOWN);
    }

    /** Promise 11: "LAND": there is no such one. */
    private static void promise11UnknownLand() {
        Edges.noLand((x, land) -> x.comes(0, land), Checks.UNKNOWN);
    }

    // ---- promise 12

    /**
     * Promise 12: "TOGETHER". Promise 12, Terms: "TOGETHER of two: behind how many MINUTES (0 .. 99": 0, if they are
     * now.
     */
    private static void promise12Now() {
        RockingRiders x = allShut("r1,05;c19;c19");
        for (int m = 0; m <= 5; m++) {
            Checks.due("behind " + m, x.together(0, 1), 5 - m);
            x.minutes(1);
        }
        Checks.due("still", x.together(0, 1), 0);
        x.minutes(3);
        Checks.due("in the last minute", x.together(0, 1), 0);
        x.minutes(1);
        Checks.due("both looked", x.together(0, 1), Checks.NONE);
    }

    /**
     * Promise 12, Terms: "behind how many MINUTES (0 .. 99, nothing else being done) both are IN one LAND": in the
     * last MINUTE that both LAST.
     */
    private static void promise12InTheLastMinute() {
        Checks.due("9", allShut("r1,09;c19;c19").together(0, 1), 9);
        Checks.due("a mile more", allShut("r1,10;c19;c19").together(0, 1), Checks.NONE);
        Checks.due("as long as one lasts", allShut("r1,05;c19;c15").together(0, 1), 5);
        Checks.due("longer than one lasts", allShut("r1,05;c19;c14").together(0, 1), Checks.NONE);
    }

    /** Promise 12, Terms: "both are IN one LAND": not in none both, nor in two, though as FAR as they are once. */
    private static void promise12OneLand() {
        Checks.due("both nowhere", allShut("r1,99;c19;c19").together(0, 1), Checks.NONE);
        Checks.due("one behind the other", allShut("r1,01,02,03,04,05;c11;c21").together(0, 1), Checks.NONE);
        Checks.due("the least of several", allShut("r1,05,05;c59;c69").together(0, 1), 1);
        Checks.due("first in two, then in one", allShut("r1,01,04;c19;c49").together(0, 1), 4);
        Checks.due("first in one, then in two", allShut("r1,01,04;c29;c39").together(0, 1), 1);
    }

    /**
     * Promise 12, Terms: "nothing else being done": so he whose eyes are not SHUT never goes; and nothing is changed.
     */
    private static void promise12NothingElse() {
        Edges.same("one is not shut", Edges::rich, x -> x.together(2, 3), Checks.NONE);
        Edges.same("one is on the way", Edges::rich, x -> x.together(1, 3), Checks.NONE);
        Edges.same("both are there", Edges::rich, x -> x.together(0, 3), 0);
        RockingRiders x = Edges.rich();
        x.wax(2);
        Checks.due("0 looks ahead of coming up", x.together(0, 3), Checks.NONE);
        x.wax(3);
        Checks.due("by more creaks he is there", x.together(0, 3), 0);
    }

    /** Promise 12, Terms: "NONE: not by then": nobody's eyes are SHUT. */
    private static void promise12NotByThen() {
        Checks.due("nobody's", Checks.with("r1,01;c99;c99").together(0, 1), Checks.NONE);
    }

    /** Promise 12: "NONE. UNKNOWN: either": the first. */
    private static void promise12UnknownFirst() {
        Edges.noRider((x, k) -> x.together(k, 0), Checks.UNKNOWN);
    }

    /** Promise 12: "UNKNOWN: either": the second. */
    private static void promise12UnknownSecond() {
        Edges.noRider((x, k) -> x.together(0, k), Checks.UNKNOWN);
    }

    /** Promise 12: "both the same": of each, in a LAND and in none; and of nobody. */
    private static void promise12BothTheSame() {
        for (int k = 0; k < 4; k++) {
            int same = k;
            Edges.same("both " + k, Edges::rich, x -> x.together(same, same), Checks.UNKNOWN);
        }
        Edges.noRider((x, k) -> x.together(k, k), Checks.UNKNOWN);
    }

    // ---- promise 13

    private static void waits(String text, int... want) {
        RockingRiders x = Checks.with(text);
        for (int k = 0; k < want.length; k++) {
            Checks.due(k + " waits by " + text, x.waits(0, k), want[k]);
        }
    }

    /**
     * Promise 13: "WAITS of a RIDER for a LAND". Promise 13, Terms: "the soonest there can be: how many MINUTES each
     * waits ahead of that": so the last to COME does not wait.
     */
    private static void promise13TheLastDoesNotWait() {
        waits("r1,09;c19;c39;c99", 0, 6, 8);
        waits("r1,09;c99;c39;c19", 8, 6, 0);
        waits("r1,09;c39;c39", 0, 0);
        waits("r1,09;c39", 0);
        waits("r1,01;c11;u99;m55;c99;c19", 0, 0, 0, 0, 0);
    }

    /** Promise 13, Terms: "NONE: somebody never COMES there": then of each, also of him who COMES. */
    private static void promise13SomebodyNeverComes() {
        waits("r1,09;c99;c39;c18", Checks.NONE, Checks.NONE, Checks.NONE);
        waits("r1,09;c18;c99", Checks.NONE, Checks.NONE);
        waits("r1,09;c18", Checks.NONE);
        waits("r1,09;c19;c99", 0, 8);
    }

    /** Promise 13: "NONE": of one LAND, but not of another; nothing is changed. */
    private static void promise13OfOneLand() {
        Edges.same("all come to 0", Edges::five, x -> x.waits(0, 4), 0);
        Edges.same("the first never to 1", Edges::five, x -> x.waits(1, 4), Checks.NONE);
        Edges.same("nor to the last", Edges::five, x -> x.waits(4, 4), Checks.NONE);
    }

    /**
     * Promise 13, Terms: "WAITS for a LAND: all RIDERS' eyes are SHUT in MINUTES so that all COME there in one and
     * the same": from the nursery on, whatever has been.
     */
    private static void promise13WhateverHasBeen() {
        RockingRiders x = allShut("r1,09;c19;c39");
        x.minutes(5);
        Checks.due("the last", x.waits(0, 0), 0);
        Checks.due("the other", x.waits(0, 1), 6);
    }

    /** Promise 13: "UNKNOWN: LAND". */
    private static void promise13UnknownLand() {
        Edges.noLand((x, land) -> x.waits(land, 0), Checks.UNKNOWN);
    }

    /** Promise 13: "RIDER": there is no such one. */
    private static void promise13UnknownRider() {
        Edges.noRider((x, k) -> x.waits(0, k), Checks.UNKNOWN);
    }

    // ---- promise 14

    private static void scouts(String text, int want) {
        Checks.due("scouts of " + text, Checks.with(text).scouts(), want);
    }

    /** Promise 14, Terms: "all LANDS to which anybody COMES": none, so nobody; in the last MINUTE, so he. */
    private static void promise14NobodyComes() {
        scouts("r1,10;c19", 0);
        scouts("r9,99,98,97,96,95;c11;c11;c11;c11;c11", 0);
        scouts("r1,09;c19", 1);
        scouts("r1,10,09;c19", 1);
    }

    /**
     * Promise 14: "SCOUTS, as a set". Promise 14, Terms: "SCOUTS: the fewest RIDERS by whom all LANDS to which
     * anybody COMES are COME to: as a set": the first alone, the last alone of five.
     */
    private static void promise14TheFewest() {
        scouts("r1,01,02,03,04,09;c19;c18;c17;c16;c15", 1);
        scouts("r1,01,02,03,04,09;c11;c12;c13;c14;c19", 16);
        scouts("r1,01,02,03,04,09;c11;c12;c19;c14;c15", 4);
        scouts("r1,01,99,03,02,04;c12;c13;c11", 2);
    }

    /** Promise 14, Terms: "of several the least": of all five, of the last two. */
    private static void promise14TheLeastOfSeveral() {
        scouts("r1,01;c11;c11;c11;c11;c11", 1);
        scouts("r1,09;c11;c11;c11;c99;c19", 8);
        scouts("r1,09;c11;m14;u13;c99;c19", 4);
    }

    /** Promise 14: "SCOUTS": nothing is changed. */
    private static void promise14NothingIsChanged() {
        Edges.same("of four", Edges::rich, RockingRiders::scouts, 8);
        Edges.same("of five", Edges::five, RockingRiders::scouts, 2);
    }

    /** Promise 14: "STATE: there is no NURSERY". */
    private static void promise14State() {
        Edges.same("none", Edges::bare, RockingRiders::scouts, Checks.STATE);
    }

    // ---- promise 15

    private static void guides(String text, int lands, int minutes, int... row) {
        RockingRiders x = Checks.with(text);
        Checks.due("lands by " + text, x.guides(-2), lands);
        Checks.due("minutes by " + text, x.guides(-1), minutes);
        for (int k = 0; k < 5; k++) {
            int want = k >= row.length || row[k] == 9 ? Checks.NONE : row[k];
            Checks.due("land of " + k + " by " + text, x.guides(k), want);
        }
        Checks.due("lands once more by " + text, x.guides(-2), lands);
        Checks.due("minutes once more by " + text, x.guides(-1), minutes);
    }

    /** Promise 15: "GUIDES: how many LANDS (k -2)": none, one, all five. */
    private static void promise15HowManyLands() {
        guides("r9,99;c11", 0, 0, 9);
        guides("r1,10,11;c19;c19", 0, 0, 9, 9);
        guides("r1,09;c19", 1, 9, 0);
        guides("r1,01,02,03,04,05;c91;c91;c91;c91;c91", 5, 5, 0, 1, 2, 3, 4);
    }

    /** Promise 15: "MINUTES together (k -1)": none, the most there can be. */
    private static void promise15MinutesTogether() {
        guides("r1,09,09,09,09,09;c19;c19;c19;c19;c19", 5, 45, 0, 1, 2, 3, 4);
        guides("r1,10,10,10,10,10;c19;c19;c19;c19;c19", 0, 0, 9, 9, 9, 9, 9);
        guides("r1,09,08,07,06,05;c19;c19;c19;c19;c19", 5, 35, 0, 1, 2, 3, 4);
    }

    /** Promise 15: "the LAND of RIDER k (0 .. 4); NONE: none, there is no such RIDER": none for him. */
    private static void promise15NoneForHim() {
        guides("r1,09;c18;c19", 1, 9, 9, 0);
        guides("r1,01;c11;c11;c11;c11;c11", 1, 1, 0, 9, 9, 9, 9);
    }

    /** Promise 15: "there is no such RIDER": of the numbers 0 .. 4. */
    private static void promise15NoSuchRider() {
        RockingRiders x = Checks.with("r1,01,01,01,01,01;c11");
        Checks.due("of 0", x.guides(0), 0);
        for (int k = 1; k <= 4; k++) {
            Checks.due("of " + k, x.guides(k), Checks.NONE);
        }
    }

    /** Promise 15, Terms: "to which they COME": in the last of his MINUTES, but not one behind it. */
    private static void promise15ToWhichTheyCome() {
        guides("r1,09,10;c19;c19", 1, 9, 0, 9);
        guides("r1,10,09;c19;c19", 1, 9, 1, 9);
    }

    /**
     * Promise 15, Terms: "GUIDES: of all ways to give to RIDERS a LAND each to which they COME, no LAND twice, or
     * none, those with the most LANDS": no LAND twice, though all COME to it alone.
     */
    private static void promise15NoLandTwice() {
        guides("r1,01,99;c11;c11;c11", 1, 1, 0, 9, 9);
        guides("r1,05,05;c51;c51;c51", 2, 2, 0, 1, 9);
    }

    /** Promise 15, Terms: "those with the most LANDS": ahead of the least MINUTES, by one and by many. */
    private static void promise15MostLands() {
        guides("r1,05,09;c99;c15", 2, 6, 1, 0);
        guides("r1,01,09;c19;c99", 2, 2, 0, 1);
        guides("r1,09,09,09,09,09;c99;c19;c19;c19;c19", 5, 37, 0, 1, 2, 3, 4);
        guides("r1,03,02,01;c33;c12;c11", 3, 4, 0, 1, 2);
        guides("r1,09,81;c99;c19", 2, 18, 1, 0);
        guides("r1,09,18,36,72,99;u59;c89;c49;c29;c19", 5, 45, 4, 3, 2, 1, 0);
    }

    /** Promise 15, Terms: "of several those with the least MINUTES (COMES) together": ahead of the first row. */
    private static void promise15LeastMinutes() {
        guides("r1,09;c19;c99", 1, 1, 9, 0);
        guides("r1,02,04;c49;c29", 2, 2, 1, 0);
        guides("r1,09,01;c19;c11", 2, 10, 0, 1);
        guides("r1,06,01;c19;c69", 2, 2, 1, 0);
    }

    /**
     * Promise 15, Terms: "of several the first as a row (of LANDS of RIDER 0, 1, ..": of as many LANDS and MINUTES.
     */
    private static void promise15FirstRow() {
        guides("r1,01,01,01;c11;c11", 2, 2, 0, 1);
        guides("r1,05,05,05,05,05;c59;c59;c59", 3, 3, 0, 1, 2);
        guides("r1,02,01;c22;c22", 2, 2, 0, 1);
    }

    /** Promise 15, Terms: "none is told as 9": so of several rows one with a LAND is ahead of one with none. */
    private static void promise15NoneIsTheLast() {
        guides("r1,01;c11;c11", 1, 1, 0, 9);
        guides("r1,01,01;c11;c11;c11", 2, 2, 0, 1, 9);
        guides("r1,04,04;c49;c19;c49", 2, 2, 0, 9, 1);
    }

    /** Promise 15: "GUIDES": nothing is changed by any of its numbers. */
    private static void promise15NothingIsChanged() {
        int[] want = {3, 16, 0, 2, Checks.NONE, 1, Checks.NONE};
        for (int k = -2; k <= 4; k++) {
            int asked = k;
            Edges.same("k " + k, Edges::rich, x -> x.guides(asked), want[k + 2]);
        }
    }

    /** Promise 15: "STATE: there is no NURSERY". */
    private static void promise15State() {
        for (int k = -2; k <= 4; k++) {
            int asked = k;
            Edges.same("k " + k, Edges::bare, x -> x.guides(asked), Checks.STATE);
        }
    }

    /** Promise 15: "OUTSIDE": too small, too large. */
    private static void promise15Outside() {
        for (int k : new int[] {-3, 5, 6, Edges.LEAST, Edges.MOST}) {
            Edges.same("k " + k, Edges::rich, x -> x.guides(k), Checks.OUTSIDE);
            Edges.same("k " + k + " of five", Edges::five, x -> x.guides(k), Checks.OUTSIDE);
        }
    }

    /** Promise 15: "STATE: there is no NURSERY; OUTSIDE": in this order. */
    private static void promise15Order() {
        Edges.same("k -3", Edges::bare, x -> x.guides(-3), Checks.STATE);
        Edges.same("k 5", Edges::bare, x -> x.guides(5), Checks.STATE);
    }
}
