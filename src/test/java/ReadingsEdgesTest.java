/**
 * Promises 16 to 21: for each sentence that names a boundary case a test of its own; its comment quotes the sentence.
 */
public final class ReadingsEdgesTest {
    private static final int ALL = 1022;

    public static void main(String[] args) {
        Edges.run(ReadingsEdgesTest.class);
        Checks.end();
    }

    /** A nursery of a text, with readings: each a rider, minutes, miles. */
    private static RockingRiders read(String text, int... readings) {
        RockingRiders x = Checks.with(text);
        for (int i = 0; i < readings.length; i += 3) {
            Checks.due("reading", x.reading(readings[i], readings[i + 1], readings[i + 2]), i / 3);
        }
        return x;
    }

    // ---- promise 16

    /**
     * Promise 16: "A READING: its number". Promise 16, Terms: "each numbered by how many there are ahead of it (the
     * first one 0)": the first, the eighth, the one behind some that were taken back.
     */
    private static void promise16ItsNumber() {
        RockingRiders x = Checks.with(Edges.FOUR);
        for (int i = 0; i < 8; i++) {
            Checks.due("number", x.reading(i % 4, i, i), i);
        }
        x.back(1);
        Checks.due("the eighth again", x.reading(0, 0, 0), 7);
        x.back(8);
        Checks.due("the first again", x.reading(0, 0, 0), 0);
    }

    /**
     * Promise 16: "FULL". Promise 16, Terms: "STATE (as told), FULL" and "READINGS, 8 at most": a ninth, not an
     * eighth.
     */
    private static void promise16Full() {
        Edges.same("a ninth", Edges::full, x -> x.reading(0, 0, 0), Checks.FULL);
        Edges.same("a ninth that is so", Edges::full, x -> x.reading(3, 20, 45), Checks.FULL);
        RockingRiders x = Edges.full();
        x.back(1);
        Checks.due("an eighth", x.reading(0, 0, 0), 7);
        Checks.due("eight", x.many(5), 8);
        Checks.due("a ninth again", x.reading(0, 0, 0), Checks.FULL);
    }

    /** Promise 16: "minutes (0 .. 20)": none, twenty, and how it is read then. */
    private static void promise16MinutesFrom0To20() {
        Checks.due("in none", read("r1,55;c55", 0, 0, 0).leans(0), ALL);
        Checks.due("in none a mile", read("r1,55;c55", 0, 0, 1).leans(0), 0);
        Checks.due("in twenty", read("r1,55;c55", 0, 20, 20).leans(0), Checks.set(1));
    }

    /** Promise 16: "v (0 .. 400)": none, four hundred, and how it is read then. */
    private static void promise16MilesFrom0To400() {
        Checks.due("none", read("r9,55;c55", 0, 2, 0).leans(0), Checks.set(1, 2, 3, 4));
        Checks.due("400", read("r1,55;u55", 0, 20, 400).leans(0), Checks.set(9));
        Checks.due("399", read("r1,55;u55", 0, 20, 399).leans(0), 0);
    }

    /** Promise 16, Terms: "(as if he LASTED for ever)": in more MINUTES than he LASTS. */
    private static void promise16AsIfHeLastedForEver() {
        Checks.due("in 2 of 1", read("r1,55;c51", 0, 2, 10).leans(0), Checks.set(5));
        Checks.due("in 20 of 1", read("r1,55;c51", 0, 20, 100).leans(0), Checks.set(5));
        Checks.due("nor does he look", read("r1,55;c51", 0, 2, 0).leans(0), 0);
    }

    /**
     * Promise 16, Terms: "in so many MINUTES of SHUT eyes, from the nursery on, a RIDER's MILES are v": however far
     * he is; and a READING changes nothing else.
     */
    private static void promise16FromTheNurseryOn() {
        RockingRiders x = Edges.rich();
        x.back(2);
        Checks.due("reading", x.reading(3, 4, 9), 0);
        Checks.due("so", x.leans(3), Checks.set(9));
        Checks.due("gone", x.ofRider(3, 4), 27);
        Checks.due("minute", x.many(3), 3);
        Checks.due("no fault is named", x.fault(), Edges.LEFT);
        x.minutes(9);
        Checks.due("so still", x.leans(3), Checks.set(9));
    }

    /** Promise 16: "UNKNOWN": there is no such RIDER. */
    private static void promise16Unknown() {
        Edges.noRider((x, k) -> x.reading(k, 0, 0), Checks.UNKNOWN);
    }

    /** Promise 16: "OUTSIDE: minutes (0 .. 20)": too small, too large. */
    private static void promise16OutsideMinutes() {
        for (int m : new int[] {-1, 21, Edges.LEAST, Edges.MOST}) {
            Edges.same("minutes " + m, Edges::rich, x -> x.reading(0, m, 0), Checks.OUTSIDE);
        }
    }

    /** Promise 16: "v (0 .. 400)": too small, too large. */
    private static void promise16OutsideMiles() {
        for (int v : new int[] {-1, 401, Edges.LEAST, Edges.MOST}) {
            Edges.same("v " + v, Edges::rich, x -> x.reading(0, 0, v), Checks.OUTSIDE);
        }
    }

    /** Promise 16: "UNKNOWN; OUTSIDE: minutes (0 .. 20), v (0 .. 400); FULL": in this order. */
    private static void promise16Order() {
        Edges.same("nobody, minutes beyond", Edges::rich, x -> x.reading(4, 21, 0), Checks.UNKNOWN);
        Edges.same("nobody, miles below", Edges::rich, x -> x.reading(4, 0, -1), Checks.UNKNOWN);
        Edges.same("nobody, full", Edges::full, x -> x.reading(4, 0, 0), Checks.UNKNOWN);
        Edges.same("minutes beyond, full", Edges::full, x -> x.reading(0, 21, 0), Checks.OUTSIDE);
        Edges.same("miles beyond, full", Edges::full, x -> x.reading(0, 0, 401), Checks.OUTSIDE);
        Edges.same("no nursery", Edges::bare, x -> x.reading(0, 21, 401), Checks.UNKNOWN);
    }

    // ---- promise 17

    /**
     * Promise 17: "The last k READINGS (0 .. as many as there are) are taken back: how many are left": none of none,
     * none of some.
     */
    private static void promise17None() {
        Edges.same("of none without a nursery", Edges::bare, x -> x.back(0), 0);
        Edges.same("of none", Edges::five, x -> x.back(0), 0);
        Edges.same("of two", Edges::rich, x -> x.back(0), 2);
        Edges.same("of eight", Edges::full, x -> x.back(0), 8);
    }

    /** Promise 17: "as many as there are": all of two, all of eight, all but one. */
    private static void promise17All() {
        Checks.due("of two", Edges.rich().back(2), 0);
        RockingRiders x = Edges.full();
        Checks.due("all but one", x.back(7), 1);
        Checks.due("the one", x.back(1), 0);
        Checks.due("no more", x.back(1), Checks.OUTSIDE);
        Checks.due("all of eight", Edges.full().back(8), 0);
        Checks.due("no fault is named", x.fault(), Edges.LEFT);
    }

    /** Promise 17: "The last k READINGS": not the first; and what is taken back is no READING any more. */
    private static void promise17TheLast() {
        RockingRiders x = read("r1,55;c55;c55", 0, 1, 1, 0, 1, 2, 1, 1, 9);
        Checks.due("none is so", x.leans(0), 0);
        Checks.due("back 1", x.back(1), 2);
        Checks.due("nor so", x.leans(0), 0);
        Checks.due("back 1", x.back(1), 1);
        Checks.due("the first is left", x.leans(0), Checks.set(1));
        Checks.due("back 1", x.back(1), 0);
        Checks.due("none is left", x.leans(0), ALL);
    }

    /** Promise 17: "OUTSIDE": too small, too large. */
    private static void promise17Outside() {
        for (int k : new int[] {-1, Edges.LEAST, Edges.MOST}) {
            Edges.same("k " + k, Edges::rich, x -> x.back(k), Checks.OUTSIDE);
            Edges.same("k " + k + " of none", Edges::bare, x -> x.back(k), Checks.OUTSIDE);
        }
        Edges.same("1 of none", Edges::bare, x -> x.back(1), Checks.OUTSIDE);
        Edges.same("3 of two", Edges::rich, x -> x.back(3), Checks.OUTSIDE);
        Edges.same("9 of eight", Edges::full, x -> x.back(9), Checks.OUTSIDE);
    }

    // ---- promise 18

    /**
     * Promise 18: "LEANS, as a set". Promise 18, Terms: "LEANS of a RIDER: 1 .. 9": the least alone, the greatest
     * alone, none beyond them.
     */
    private static void promise18OneToNine() {
        Checks.due("1", read("r1,55;c55", 0, 1, 1).leans(0), Checks.set(1));
        Checks.due("9", read("r1,55;c55", 0, 1, 9).leans(0), Checks.set(9));
        Checks.due("not 0", read("r1,55;c55", 0, 1, 0).leans(0), 0);
        Checks.due("not 10", read("r1,55;c55", 0, 1, 10).leans(0), 0);
        Checks.due("1 of a maid", read("r1,55;m55", 0, 1, 2).leans(0), Checks.set(1));
        Checks.due("not 0 of a maid", read("r1,55;m55", 0, 1, 1).leans(0), 0);
        Checks.due("9 of an uncle", read("r1,55;u55", 0, 1, 20).leans(0), Checks.set(9));
        Checks.due("not 0 of an uncle", read("r1,55;u55", 0, 1, 2).leans(0), 0);
    }

    /** Promise 18, Terms: "by which all READINGS are so": without any all nine. */
    private static void promise18WithoutReadings() {
        Edges.same("of the first", Edges::five, x -> x.leans(0), ALL);
        Edges.same("of the last", Edges::five, x -> x.leans(4), ALL);
    }

    /** Promise 18, Terms: "by which all READINGS are so": the first and the eighth too. */
    private static void promise18AllReadings() {
        int[] readings = new int[24];
        readings[1] = 1;
        readings[2] = 4;
        readings[22] = 1;
        readings[23] = 5;
        RockingRiders x = read("r1,55;c55", readings);
        Checks.due("both can't be", x.leans(0), 0);
        x.back(1);
        Checks.due("the first", x.leans(0), Checks.set(4));
        readings[2] = 5;
        Checks.due("both are", read("r1,55;c55", readings).leans(0), Checks.set(5));
    }

    /**
     * Promise 18, Terms: "All that follows: in place of what it is alone": all else is as it is, so another RIDER's
     * must be so.
     */
    private static void promise18Alone() {
        Checks.due("another's is so", read("r1,55;c55;c33", 1, 1, 3).leans(0), ALL);
        Checks.due("another's is not", read("r1,55;c55;c33", 1, 1, 4).leans(0), 0);
        Checks.due("but of the other it may", read("r1,55;c55;c33", 1, 1, 4).leans(1), Checks.set(4));
        Checks.due("by the creaks there are", read("r2,55;c55", 0, 1, 4).leans(0), Checks.set(8, 9));
        Checks.due("by his kind", read("r1,55;m55", 0, 1, 4).leans(0), Checks.set(3));
    }

    /** Promise 18, Terms: "Quotients are cut": so several may be so, a creak short of a mile and just one. */
    private static void promise18Cut() {
        Checks.due("no mile", read("r5,55;c55", 0, 1, 0).leans(0), Checks.set(1, 2, 3, 4));
        Checks.due("one", read("r5,55;c55", 0, 1, 1).leans(0), Checks.set(5, 6, 7, 8, 9));
        Checks.due("of two minutes", read("r5,55;c55", 0, 2, 1).leans(0), Checks.set(3, 4));
    }

    /** Promise 18: "UNKNOWN": there is no such RIDER. */
    private static void promise18Unknown() {
        Edges.noRider((x, k) -> x.leans(k), Checks.UNKNOWN);
    }

    // ---- promise 19

    /** Promise 19: "KINDS, as a set". Promise 19, Terms: "KINDS of a RIDER: 0 .. 2": each alone, none beyond them. */
    private static void promise19Each() {
        for (char kind : new char[] {'c', 'm', 'u'}) {
            String text = "r1,55;" + kind + "55";
            Checks.due("0", read(text, 0, 1, 5).kinds(0), Checks.set(0));
            Checks.due("1", read(text, 0, 1, 6).kinds(0), Checks.set(1));
            Checks.due("2", read(text, 0, 1, 12).kinds(0), Checks.set(2));
            Checks.due("none", read(text, 0, 1, 7).kinds(0), 0);
            Checks.due("nor below", read(text, 0, 1, 4).kinds(0), 0);
        }
    }

    /** Promise 19, Terms: "by which all READINGS are so": without any all three, of the first and the last RIDER. */
    private static void promise19WithoutReadings() {
        Edges.same("of the first", Edges::five, x -> x.kinds(0), 7);
        Edges.same("of the last", Edges::five, x -> x.kinds(4), 7);
    }

    /** Promise 19, Terms: "by which all READINGS are so": the eighth too. */
    private static void promise19AllReadings() {
        int[] readings = new int[24];
        readings[22] = 1;
        readings[23] = 6;
        RockingRiders x = read("r1,55;c55", readings);
        Checks.due("the eighth", x.kinds(0), Checks.set(1));
        x.back(1);
        Checks.due("seven of no minute", x.kinds(0), 7);
    }

    /** Promise 19, Terms: "in place of what it is alone": all else is as it is, so another RIDER's must be so. */
    private static void promise19Alone() {
        Checks.due("another's is so", read("r1,55;c55;m33", 1, 1, 4).kinds(0), 7);
        Checks.due("another's is not", read("r1,55;c55;m33", 1, 1, 3).kinds(0), 0);
        Checks.due("but of the other it may", read("r1,55;c55;m33", 1, 1, 3).kinds(1), Checks.set(0));
        RockingRiders x = read("r1,55;c55", 0, 1, 7);
        x.lean(0, 6);
        Checks.due("by the lean there is", x.kinds(0), Checks.set(1));
        x.wax(2);
        Checks.due("by the creaks there are", x.kinds(0), Checks.set(2));
    }

    /** Promise 19, Terms: "Quotients are cut": so several may be so. */
    private static void promise19Cut() {
        Checks.due("5 and 6 by 9", read("r9,55;c55", 0, 1, 0).kinds(0), Checks.set(0, 1));
        Checks.due("12 by 9", read("r9,55;c55", 0, 1, 1).kinds(0), Checks.set(2));
        Checks.due("in no minute", read("r9,55;c55", 0, 0, 0).kinds(0), 7);
    }

    /** Promise 19: "UNKNOWN": there is no such RIDER. */
    private static void promise19Unknown() {
        Edges.noRider((x, k) -> x.kinds(k), Checks.UNKNOWN);
    }

    // ---- promise 20

    /**
     * Promise 20: "CREAKS to the MILE, as a set". Promise 20, Terms: "CREAKS to the MILE: 1 .. 9; as sets": the least
     * alone, the greatest alone, none beyond them.
     */
    private static void promise20OneToNine() {
        Checks.due("1", read("r5,55;c55", 0, 1, 5).creaks(), Checks.set(1));
        Checks.due("9", read("r5,55;c85", 0, 1, 0).creaks(), Checks.set(9));
        Checks.due("not 10", read("r5,55;c95", 0, 1, 0).creaks(), 0);
        Checks.due("not a half", read("r5,55;c55", 0, 1, 10).creaks(), 0);
    }

    /** Promise 20, Terms: "by which all READINGS are so": without any all nine; none, if one can't be. */
    private static void promise20WithoutReadings() {
        Edges.same("of five", Edges::five, RockingRiders::creaks, ALL);
        Checks.due("in no minute none", read("r5,55;c55", 0, 0, 0).creaks(), ALL);
        Checks.due("in no minute a mile", read("r5,55;c55", 0, 0, 1).creaks(), 0);
    }

    /** Promise 20, Terms: "by which all READINGS are so": of all RIDERS, the eighth too. */
    private static void promise20AllReadings() {
        int[] readings = new int[24];
        readings[1] = 1;
        readings[2] = 1;
        readings[21] = 2;
        readings[22] = 1;
        readings[23] = 2;
        RockingRiders x = read("r1,55;c55;c11;u25", readings);
        Checks.due("5 a mile, 6 two miles", x.creaks(), Checks.set(3));
        x.back(1);
        Checks.due("5 a mile", x.creaks(), Checks.set(3, 4, 5));
    }

    /** Promise 20, Terms: "in place of what it is alone": by the LEAN there is, whatever the CREAKS are now. */
    private static void promise20Alone() {
        RockingRiders x = read("r1,55;c55", 0, 1, 2);
        Checks.due("5 two miles", x.creaks(), Checks.set(2));
        x.wax(9);
        Checks.due("whatever they are", x.creaks(), Checks.set(2));
        x.lean(0, 8);
        Checks.due("8 two miles", x.creaks(), Checks.set(3, 4));
        Checks.due("they stay", x.many(2), 9);
    }

    /** Promise 20: "STATE: there is no NURSERY". */
    private static void promise20State() {
        Edges.same("none", Edges::bare, RockingRiders::creaks, Checks.STATE);
    }

    // ---- promise 21

    private static void odds(String text, int land, int upper, int lower) {
        RockingRiders x = Checks.with(text);
        Checks.due("upper of " + text, x.odds(0, land, 0), upper);
        Checks.due("lower of " + text, x.odds(0, land, 1), lower);
    }

    /** Promise 21: "ODDS of a RIDER and a LAND (which 0 the upper, 1 the lower number)": never, always. */
    private static void promise21NeverAndAlways() {
        odds("r1,99;c59", 0, 0, 1);
        odds("r1,99;c51", 0, 0, 1);
        odds("r1,01;c59", 0, 1, 1);
        odds("r1,01;c51", 0, 1, 1);
    }

    /**
     * Promise 21, Terms: "ODDS of a RIDER and a LAND: if his eyes are SHUT from the nursery on for any number of
     * MINUTES 1 .. LASTS, all alike": the first and the last of them, none behind it.
     */
    private static void promise21MinutesOneToLasts() {
        odds("r1,09;c19", 0, 1, 9);
        odds("r1,10;c19", 0, 0, 1);
        odds("r1,01,02;c19", 0, 1, 9);
        odds("r1,02;c19", 0, 8, 9);
        odds("r1,01,03;c12", 0, 1, 1);
    }

    /**
     * Promise 21, Terms: "Shares are told as upper and lower number (above 0) in least terms": of 6 by 9, 4 by 8, 0
     * by 6.
     */
    private static void promise21LeastTerms() {
        odds("r1,04;c19", 0, 2, 3);
        odds("r1,05;c18", 0, 1, 2);
        odds("r1,07;c16", 0, 0, 1);
        odds("r1,03;c18", 0, 3, 4);
        odds("r1,02;c18", 0, 7, 8);
        odds("r1,07;c19", 0, 1, 3);
    }

    /**
     * Promise 21, Terms: "the share by which he is IN it then": not in one that is nearer, nor in the second of two
     * that are as FAR.
     */
    private static void promise21InIt() {
        odds("r1,02,05,02;c19", 0, 1, 3);
        odds("r1,02,05,02;c19", 1, 5, 9);
        odds("r1,02,05,02;c19", 2, 0, 1);
        odds("r3,02;c49", 0, 8, 9);
    }

    /** Promise 21, Terms: "from the nursery on": however far he is; and nothing is changed. */
    private static void promise21FromTheNurseryOn() {
        Edges.same("upper", Edges::rich, x -> x.odds(3, 0, 0), 1);
        Edges.same("lower", Edges::rich, x -> x.odds(3, 0, 1), 3);
        Edges.same("the last of the last", Edges::five, x -> x.odds(4, 4, 1), 1);
    }

    /** Promise 21: "LOST: UNKNOWN: RIDER". Promise 21, Terms: "(LOST, where a long is answered, as for refusals)". */
    private static void promise21UnknownRider() {
        Edges.noRider((x, k) -> x.odds(k, 0, 0), Checks.LOST);
        Edges.noRider((x, k) -> x.odds(k, 0, 1), Checks.LOST);
    }

    /** Promise 21: "LAND": there is no such one. */
    private static void promise21UnknownLand() {
        Edges.noLand((x, land) -> x.odds(0, land, 0), Checks.LOST);
        Edges.noLand((x, land) -> x.odds(0, land, 1), Checks.LOST);
    }

    /** Promise 21: "OUTSIDE": too small, too large. */
    private static void promise21Outside() {
        for (int which : new int[] {-1, 2, Edges.LEAST, Edges.MOST}) {
            Edges.same("which " + which, Edges::rich, x -> x.odds(0, 0, which), Checks.LOST);
        }
    }
}
