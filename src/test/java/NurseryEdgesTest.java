/**
 * Promises 1 to 6: for each sentence that names a boundary case a test of its own; its comment quotes the sentence.
 */
public final class NurseryEdgesTest {
    private static final String ONE = "r5,55;c55";

    public static void main(String[] args) {
        Edges.run(NurseryEdgesTest.class);
        Checks.end();
    }

    /** The answer to a text on a new object. */
    private static int taken(String text) {
        return Checks.text(new RockingRiders(), text);
    }

    private static void faulty(String text, int place) {
        Checks.due(text, taken(text), -100 - place);
    }

    // ---- promise 1

    /** Promise 1: "No NURSERY (no LANDS, RIDERS)". */
    private static void promise01NoNursery() {
        RockingRiders x = new RockingRiders();
        Checks.due("lands", x.many(0), 0);
        Checks.due("riders", x.many(1), 0);
        Checks.due("land 0", x.far(0), Checks.UNKNOWN);
        Checks.due("rider 0", x.ofRider(0, 0), Checks.UNKNOWN);
        Checks.due("no nursery", x.wax(1), Checks.STATE);
    }

    /** Promise 1: "No NURSERY": nor has a new object what another one has. */
    private static void promise01NothingOfAnother() {
        RockingRiders other = Edges.full();
        RockingRiders x = new RockingRiders();
        Checks.due("no nursery", x.wax(1), Checks.STATE);
        for (int what = 0; what <= 5; what++) {
            Checks.due("many " + what, x.many(what), 0);
        }
        Checks.due("trace", x.trace(), 0);
        Checks.due("fault", x.fault(), 0);
        Checks.due("the other has it still", other.many(5), 8);
    }

    /** Promise 1: "SHEETS have nothing". Promise 1, Terms: "SHEETS 0 .. 3 have nothing (at first)". */
    private static void promise01SheetsHaveNothing() {
        RockingRiders x = new RockingRiders();
        for (int k = 0; k <= 3; k++) {
            Checks.due("sheet " + k, x.put(k, 0, 0), Checks.NULL);
            Checks.due("lose " + k, x.lose(k), 0);
        }
        Checks.due("no fifth", x.put(4, 0, 0), Checks.UNKNOWN);
    }

    /** Promise 1, What it is: "An object is used for at most 512 calls after it has been made". */
    private static void promise01TheLastCall() {
        RockingRiders x = new RockingRiders();
        Checks.due("sheet", x.sheet(0, 0, ONE.length()), 1);
        for (int i = 0; i < ONE.length(); i++) {
            Checks.due("put", x.put(0, i, ONE.charAt(i)), 1);
        }
        int calls = 1 + ONE.length();
        while (calls < 510) {
            calls++;
            Checks.due("call " + calls, x.nursery(0, 0, 0, ONE.length()), 1);
        }
        Checks.due("call 511", x.minutes(99), 0);
        Checks.due("call 512", x.many(3), 99);
    }

    // ---- promise 2: what is a text

    /** Promise 2, Terms: "A NURSERY by a TEXT: r, a digit 1 .. 9 (CREAKS to the MILE)". */
    private static void promise02CreaksOneToNine() {
        for (int r = 1; r <= 9; r++) {
            RockingRiders x = Checks.with("r" + r + ",55;c55");
            Checks.due("creaks", x.many(2), r);
        }
        faulty("r0,55;c55", 1);
        faulty("r/,55;c55", 1);
        faulty("r:,55;c55", 1);
        faulty("r10,55;c55", 2);
        faulty("5,55;c55", 0);
    }

    /** Promise 2, Terms: "then 1 to 5 LANDS, numbered from 0 on": one, five, but not none. */
    private static void promise02OneToFiveLands() {
        for (int n = 1; n <= 5; n++) {
            RockingRiders x = Checks.with("r5" + ",11,22,33,44,55".substring(0, 3 * n) + ";c55");
            Checks.due("lands", x.many(0), n);
            Checks.due("the first", x.far(0), 11);
            Checks.due("the last", x.far(n - 1), 11 * n);
            Checks.due("no more", x.far(n), Checks.UNKNOWN);
        }
        faulty("r5;c55", 2);
    }

    /** Promise 2, Terms: "the , of a sixth LAND". */
    private static void promise02SixthLand() {
        faulty("r5,11,22,33,44,55,66;c55", 17);
        faulty("r5,11,22,33,44,55,", 17);
        Checks.due("but not of a fifth", taken("r5,11,22,33,44,55;c55"), 1);
    }

    /** Promise 2, Terms: "each: , and two digits 01 .. 99 (FAR: MILES)". */
    private static void promise02FarFrom01To99() {
        for (int far = 1; far <= 99; far++) {
            RockingRiders x = Checks.with("r5," + far / 10 + far % 10 + ";c55");
            Checks.due("far", x.far(0), far);
        }
        faulty("r5,100;c55", 5);
        faulty("r5.55;c55", 2);
    }

    /** Promise 2, Terms: "of 01 .. 99 the first digit by which no such number begins". */
    private static void promise02FirstDigitByWhichNoNumberBegins() {
        faulty("r5,00;c55", 4);
        faulty("r5,0;c55", 4);
        faulty("r5,5;c55", 4);
        faulty("r5,;c55", 3);
        faulty("r5,55,00;c55", 7);
        faulty("r5,0/;c55", 4);
        faulty("r5,0:;c55", 4);
        Checks.due("0 begins one", taken("r5,01;c55"), 1);
        Checks.due("0 ends one", taken("r5,10;c55"), 1);
    }

    /** Promise 2, Terms: "then 1 to 5 RIDERS, numbered from 0 on": one, five, but not none. */
    private static void promise02OneToFiveRiders() {
        for (int n = 1; n <= 5; n++) {
            RockingRiders x = Checks.with("r5,55" + ";c11;m22;u33;c44;m55".substring(0, 4 * n));
            Checks.due("riders", x.many(1), n);
            Checks.due("the first", x.ofRider(0, 1), 1);
            Checks.due("the last", x.ofRider(n - 1, 1), n);
            Checks.due("no more", x.ofRider(n, 1), Checks.UNKNOWN);
        }
        faulty("r5,55", 5);
    }

    /** Promise 2, Terms: "the ; of a sixth RIDER". */
    private static void promise02SixthRider() {
        faulty("r5,55;c11;m22;u33;c44;m55;u66", 25);
        faulty("r5,55;c11;m22;u33;c44;m55;", 25);
        Checks.due("but not of a fifth", taken("r5,55;c11;m22;u33;c44;m55"), 5);
    }

    /** Promise 2, Terms: "each: ; and a letter, a digit 1 .. 9 (LEAN), a digit 1 .. 9 (LASTS)": LEAN. */
    private static void promise02LeanOneToNine() {
        for (int v = 1; v <= 9; v++) {
            Checks.due("lean", Checks.with("r5,55;c" + v + "5").ofRider(0, 1), v);
        }
        faulty("r5,55;c05", 7);
        faulty("r5,55;c/5", 7);
        faulty("r5,55;c:5", 7);
    }

    /** Promise 2, Terms: "each: ; and a letter, a digit 1 .. 9 (LEAN), a digit 1 .. 9 (LASTS)": LASTS. */
    private static void promise02LastsOneToNine() {
        for (int v = 1; v <= 9; v++) {
            Checks.due("lasts", Checks.with("r5,55;c5" + v).ofRider(0, 2), v);
        }
        faulty("r5,55;c50", 8);
        faulty("r5,55;c5/", 8);
        faulty("r5,55;c5:", 8);
        faulty("r5,55;c510", 9);
    }

    /** Promise 2, Terms: "Kinds: 0 CHILD (c); 1 MAID (m)" and "2 UNCLE (u)": no other letter. */
    private static void promise02Letters() {
        for (int code = 0; code <= 127; code++) {
            int kind = code == 'c' ? 0 : code == 'm' ? 1 : code == 'u' ? 2 : -1;
            RockingRiders x = new RockingRiders();
            int answer = Checks.text(x, "r5,55;" + (char) code + "55");
            Checks.due("letter " + code, answer, kind < 0 ? -106 : 1);
            Checks.due("kind of " + code, x.ofRider(0, 0), kind < 0 ? Checks.UNKNOWN : kind);
        }
    }

    /**
     * Promise 2, Terms: "(Codes: r 114, c 99, m 109, u 117, the comma 44, ; 59, digits 48 .. 57.)": no other ones.
     */
    private static void promise02Codes() {
        String digits = "0123456789";
        String[] may = {"r", "123456789", ",", digits, digits, ",;", digits, digits, ",;", "cmu",
            "123456789", "123456789"};
        String text = "r5,55,55;c55";
        for (int place = 0; place < may.length; place++) {
            RockingRiders x = new RockingRiders();
            Checks.row(x, 0, 0, Checks.codes(text));
            for (int code = -128; code <= 127; code++) {
                x.put(0, place, code);
                boolean stops = x.nursery(0, 0, 0, text.length()) == -100 - place;
                Checks.holds("code " + code + " at " + place, stops != (code >= 0 && may[place].indexOf(code) >= 0));
                if (code == 0) {
                    x = new RockingRiders();
                    Checks.row(x, 0, 0, Checks.codes(text));
                }
            }
        }
    }

    /** Promise 2, Terms: "(Codes: r 114": a number that ends in the same eight bits is another code. */
    private static void promise02CodesAreNotCut() {
        for (int lane = 1; lane <= 2; lane++) {
            for (int place = 0; place < ONE.length(); place++) {
                RockingRiders x = new RockingRiders();
                Checks.row(x, 0, lane, Checks.codes(ONE));
                x.put(0, place, 256 + ONE.charAt(place));
                Checks.due("256 more at " + place, x.nursery(0, lane, 0, ONE.length()), -100 - place);
                x.put(0, place, ONE.charAt(place) - 256);
                Checks.due("256 less at " + place, x.nursery(0, lane, 0, ONE.length()), -100 - place);
            }
        }
    }

    /** Promise 2, Terms: "FIRST FAULT: the place (from 0 on) of the first code with which no TEXT goes on". */
    private static void promise02FirstFault() {
        faulty("x5,55;c55", 0);
        faulty("x0,00;x00", 0);
        faulty("r5,00;x00", 4);
        faulty("r5,55;c55c", 9);
        faulty("r5,55;c55,", 9);
        faulty("r5,55;c555", 9);
        faulty(Edges.FIVE + "r", Edges.FIVE.length());
    }

    /** Promise 2, Terms: "how many codes there are, if it just ends too soon": every beginning of a text. */
    private static void promise02EndsTooSoon() {
        for (int n = 0; n < ONE.length(); n++) {
            faulty(ONE.substring(0, n), n);
        }
        for (int n = 0; n <= 17; n++) {
            faulty(Edges.FIVE.substring(0, n), n);
        }
        for (int n = 18; n < Edges.FIVE.length(); n++) {
            if ((n - 17) % 4 != 0) {
                faulty(Edges.FIVE.substring(0, n), n);
            }
        }
    }

    /**
     * Promise 2, Terms: "how many codes there are, if it just ends too soon": none, of a row with cells or without.
     */
    private static void promise02EmptyText() {
        RockingRiders x = new RockingRiders();
        Checks.row(x, 0, 0, Checks.codes(ONE));
        Checks.row(x, 1, 2);
        Checks.due("none of some", x.nursery(0, 0, 0, 0), -100);
        Checks.due("none within", x.nursery(0, 0, 3, 0), -100);
        Checks.due("none behind the last", x.nursery(0, 0, ONE.length(), 0), -100);
        Checks.due("none of none", x.nursery(1, 2, 0, 0), -100);
    }

    // ---- promise 2: what a text makes

    /** Promise 2, Terms: "A TEXT that is taken makes all anew": a smaller nursery, then a larger one. */
    private static void promise02AllAnew() {
        RockingRiders x = Edges.five();
        x.wax(9);
        x.lean(0, 9);
        Checks.due("one", Checks.text(x, ONE), 1);
        Checks.due("one land", x.many(0), 1);
        Checks.due("no land more", x.far(1), Checks.UNKNOWN);
        Checks.due("no rider more", x.ofRider(1, 0), Checks.UNKNOWN);
        Checks.due("lean", x.ofRider(0, 1), 5);
        Checks.due("creaks", x.many(2), 5);
        Checks.due("five", Checks.text(x, Edges.FIVE), 5);
        Checks.due("five lands", x.many(0), 5);
        Checks.due("the last land", x.far(4), 5);
    }

    /** Promise 2, Terms: "nobody's eyes are SHUT": by a text that is taken. */
    private static void promise02NobodysEyesAreShut() {
        RockingRiders x = again();
        Checks.due("how many", x.many(4), 0);
        for (int k = 0; k < 4; k++) {
            Checks.due("eyes of " + k, x.ofRider(k, 7), 0);
            Checks.due("for how long", x.ofRider(k, 8), 0);
        }
    }

    /** Promise 2, Terms: "all have GONE 0": by a text that is taken. */
    private static void promise02AllHaveGone0() {
        RockingRiders x = again();
        for (int k = 0; k < 4; k++) {
            Checks.due("gone of " + k, x.ofRider(k, 4), 0);
        }
    }

    /** Promise 2, Terms: "it is MINUTE 0": by a text that is taken. */
    private static void promise02Minute0() {
        Checks.due("minute", again().many(3), 0);
    }

    /** Promise 2, Terms: "no READINGS": by a text that is taken, so that eight can be again. */
    private static void promise02NoReadings() {
        RockingRiders x = Edges.full();
        Checks.due("full", x.reading(0, 0, 0), Checks.FULL);
        Checks.due("again", x.nursery(0, 0, 0, Edges.FOUR.length()), 4);
        Checks.due("how many", x.many(5), 0);
        Checks.due("none is left", x.leans(0), 1022);
        Checks.due("the first", x.reading(0, 0, 0), 0);
    }

    /** Promise 2, Terms: "but for SHEETS and TRACE": SHEETS stay. */
    private static void promise02SheetsStay() {
        RockingRiders x = again();
        for (int i = 0; i < Edges.FOUR.length(); i++) {
            Checks.due("cell " + i, x.cell(0, i, 0), Edges.FOUR.charAt(i));
        }
        Checks.due("another sheet", x.cell(2, 2, 2), 70001);
        Checks.due("one with nothing", x.lose(3), 0);
    }

    /** Promise 2, Terms: "but for SHEETS and TRACE": TRACE stays. */
    private static void promise02TraceStays() {
        Checks.due("trace", again().trace(), ((3 * 31 + 2) * 31 + 1) * 31 + 1);
    }

    /** The same text once more on a nursery in which much has been, also what only asks and looks ahead. */
    private static RockingRiders again() {
        RockingRiders x = Edges.rich();
        x.afternoon(1, 1, 0, 3, 4);
        x.guides(-2);
        x.together(0, 3);
        Checks.due("again", x.nursery(0, 0, 0, Edges.FOUR.length()), 4);
        return x;
    }

    // ---- promise 2: the call

    /**
     * Promise 2: "A NURSERY by a TEXT of n cells of a SHEET from i on": the first cells, the last ones, n of them.
     */
    private static void promise02NCellsFromIOn() {
        RockingRiders x = new RockingRiders();
        int[] codes = Checks.codes("x".repeat(60 - Edges.FIVE.length()) + Edges.FIVE);
        Checks.row(x, 3, 0, codes);
        int n = Edges.FIVE.length();
        Checks.due("the last cells", x.nursery(3, 0, 60 - n, n), 5);
        Checks.due("one rider fewer", x.nursery(3, 0, 60 - n, n - 4), 4);
        Checks.due("one code fewer", x.nursery(3, 0, 60 - n, n - 1), -100 - n + 1);
        Checks.due("places are from i on", x.nursery(3, 0, 59 - n, n), -100);
        Checks.due("all cells", x.nursery(3, 0, 0, 60), -100);
        Checks.row(x, 3, 0, Checks.codes(ONE + "xx"));
        Checks.due("the first cells", x.nursery(3, 0, 0, ONE.length()), 1);
        Checks.due("a code more", x.nursery(3, 0, 0, ONE.length() + 1), -100 - ONE.length());
    }

    /** Promise 2: "taken as a row of a LANE": of each, the least and the greatest too. */
    private static void promise02OfALane() {
        for (int lane = 0; lane <= 2; lane++) {
            RockingRiders x = new RockingRiders();
            Checks.row(x, lane, lane, Checks.codes(ONE));
            Checks.due("lane " + lane, x.nursery(lane, lane, 0, ONE.length()), 1);
        }
    }

    /** Promise 2: "how many RIDERS": the fewest and the most, and no fault. */
    private static void promise02HowManyRiders() {
        RockingRiders x = Edges.bare();
        Checks.due("one", Checks.text(x, ONE), 1);
        Checks.due("no fault", x.fault(), 0);
        Checks.due("five", Checks.text(x, Edges.FIVE), 5);
        Checks.due("no fault", x.fault(), 0);
    }

    /** Promise 2: "-100 less the FIRST FAULT": and then nothing is changed; it is no fault of the machine's. */
    private static void promise02NotTaken() {
        Edges.sameWithFault("at 0", Edges::rich, x -> x.nursery(0, 0, 1, 5), -100, 0);
        Edges.sameWithFault("at the end", Edges::rich, x -> x.nursery(0, 0, 0, 29), -129, 0);
        Edges.sameWithFault("at the end of the lands", Edges::rich, x -> x.nursery(0, 0, 0, 14), -114, 0);
        Edges.sameWithFault("no nursery yet", Edges::bare, x -> x.nursery(0, 0, 0, 29), -129, 0);
    }

    /** Promise 2: "UNKNOWN": there is no such SHEET. */
    private static void promise02Unknown() {
        Edges.noSheet((x, k) -> x.nursery(k, 0, 0, 30), Checks.UNKNOWN);
    }

    /** Promise 2: "OUTSIDE: lane": too small, too large. */
    private static void promise02OutsideLane() {
        for (int lane : new int[] {-1, 3, Edges.LEAST, Edges.MOST}) {
            Edges.sameWithFault("lane " + lane, Edges::rich, x -> x.nursery(0, lane, 0, 30), Checks.OUTSIDE, 0);
            Edges.sameWithFault("of nothing", Edges::rich, x -> x.nursery(3, lane, 0, 0), Checks.OUTSIDE, 0);
        }
    }

    /** Promise 2: "CAST (nothing is no CAST)": another lane, below it and above it. */
    private static void promise02Cast() {
        Edges.sameWithFault("bytes as shorts", Edges::rich, x -> x.nursery(0, 1, 0, 30), Checks.CAST, 2);
        Edges.sameWithFault("bytes as ints", Edges::rich, x -> x.nursery(0, 2, 0, 30), Checks.CAST, 2);
        Edges.sameWithFault("shorts as bytes", Edges::rich, x -> x.nursery(1, 0, 0, 0), Checks.CAST, 2);
        Edges.sameWithFault("ints as shorts", Edges::rich, x -> x.nursery(2, 1, 0, 0), Checks.CAST, 2);
    }

    /** Promise 2: "CAST (nothing is no CAST); NULL": nothing, whatever the lane. */
    private static void promise02NothingIsNull() {
        for (int lane = 0; lane <= 2; lane++) {
            int as = lane;
            Edges.sameWithFault("as " + lane, Edges::rich, x -> x.nursery(3, as, 0, 0), Checks.NULL, 1);
        }
    }

    /** Promise 2: "NULL": a row that was lost; but an empty one is something. */
    private static void promise02NullOfWhatWasLost() {
        RockingRiders x = Edges.rich();
        x.lose(0);
        Checks.due("lost", x.nursery(0, 0, 0, 30), Checks.NULL);
        x.sheet(0, 0, 0);
        Checks.due("empty", x.nursery(0, 0, 0, 0), -100);
    }

    /** Promise 2: "SIZE: n below 0". Promise 2, Terms: "4 SIZE (a length below 0)". */
    private static void promise02Size() {
        Edges.sameWithFault("n -1", Edges::rich, x -> x.nursery(0, 0, 0, -1), Checks.SIZE, 4);
        Edges.sameWithFault("n far below", Edges::rich, x -> x.nursery(0, 0, 0, Edges.LEAST), Checks.SIZE, 4);
        Edges.sameWithFault("n 0 is none", Edges::rich, x -> x.nursery(0, 0, 0, 0), -100, 0);
    }

    /** Promise 2: "INDEX": a cell that is not there, ahead of the row or beyond it. */
    private static void promise02Index() {
        int[][] calls = {{-1, 1}, {-1, 30}, {Edges.LEAST, 1}, {Edges.LEAST, Edges.MOST}, {0, 31}, {1, 30}, {29, 2},
            {30, 1}, {31, 1}, {Edges.MOST, 1}, {1, Edges.MOST}, {30, Edges.MOST}, {Edges.MOST, Edges.MOST}};
        for (int[] c : calls) {
            String what = "nursery from " + c[0] + ", of " + c[1];
            Edges.sameWithFault(what, Edges::rich, x -> x.nursery(0, 0, c[0], c[1]), Checks.INDEX, 3);
        }
    }

    /**
     * Promise 2, Terms: "of cells from i on also where i is not 0 .. how many there are, if none of them is taken".
     */
    private static void promise02IndexOfNone() {
        for (int i : new int[] {-1, 31, Edges.LEAST, Edges.MOST}) {
            Edges.sameWithFault("none from " + i, Edges::rich, x -> x.nursery(0, 0, i, 0), Checks.INDEX, 3);
        }
        Edges.sameWithFault("none from 0", Edges::rich, x -> x.nursery(0, 0, 0, 0), -100, 0);
        Edges.sameWithFault("none from 30", Edges::rich, x -> x.nursery(0, 0, 30, 0), -100, 0);
    }

    /**
     * Promise 2: "UNKNOWN; OUTSIDE: lane; CAST (nothing is no CAST); NULL; SIZE: n below 0; INDEX; -100 less it": in
     * this order. Promise 2, Terms: "of several the first in the order in which a call's line tells them" and "Of a
     * call the first that is come to, in the order told".
     */
    private static void promise02Order() {
        Edges.sameWithFault("no sheet, no lane", Edges::rich, x -> x.nursery(4, 3, -1, -1), Checks.UNKNOWN, 0);
        Edges.sameWithFault("no lane, n below", Edges::rich, x -> x.nursery(0, 3, -1, -1), Checks.OUTSIDE, 0);
        Edges.sameWithFault("another lane, n below", Edges::rich, x -> x.nursery(0, 1, -1, -1), Checks.CAST, 2);
        Edges.sameWithFault("another lane, i below", Edges::rich, x -> x.nursery(0, 1, -1, 1), Checks.CAST, 2);
        Edges.sameWithFault("nothing, n below", Edges::rich, x -> x.nursery(3, 1, -1, -1), Checks.NULL, 1);
        Edges.sameWithFault("nothing, i beyond", Edges::rich, x -> x.nursery(3, 1, 9, 1), Checks.NULL, 1);
        Edges.sameWithFault("n below, i below", Edges::rich, x -> x.nursery(0, 0, -1, -1), Checks.SIZE, 4);
        Edges.sameWithFault("n beyond, no text", Edges::rich, x -> x.nursery(0, 0, 1, 30), Checks.INDEX, 3);
    }

    // ---- promise 3

    /** Promise 3: "Of a RIDER: 0 kind": the least, the greatest. */
    private static void promise03Kind() {
        RockingRiders x = Edges.rich();
        Checks.due("child", x.ofRider(0, 0), 0);
        Checks.due("maid", x.ofRider(1, 0), 1);
        Checks.due("uncle", x.ofRider(2, 0), 2);
    }

    /** Promise 3: "1 LEAN": the least, the greatest, and what it became. */
    private static void promise03Lean() {
        RockingRiders x = Checks.with("r5,55;c15;c95");
        Checks.due("least", x.ofRider(0, 1), 1);
        Checks.due("greatest", x.ofRider(1, 1), 9);
        x.lean(0, 9);
        Checks.due("became", x.ofRider(0, 1), 9);
    }

    /** Promise 3: "2 LASTS": the least, the greatest. */
    private static void promise03Lasts() {
        RockingRiders x = Checks.with("r5,55;c51;c59");
        Checks.due("least", x.ofRider(0, 2), 1);
        Checks.due("greatest", x.ofRider(1, 2), 9);
    }

    /** Promise 3: "3 PACE". Promise 3, Terms: "PACE: of a CHILD LEAN". */
    private static void promise03PaceOfAChild() {
        RockingRiders x = Checks.with("r5,55;c11;c99");
        Checks.due("least", x.ofRider(0, 3), 1);
        Checks.due("greatest", x.ofRider(1, 3), 9);
    }

    /** Promise 3: "3 PACE". Promise 3, Terms: "of a MAID 1 more". */
    private static void promise03PaceOfAMaid() {
        RockingRiders x = Checks.with("r5,55;m11;m99");
        Checks.due("least", x.ofRider(0, 3), 2);
        Checks.due("greatest", x.ofRider(1, 3), 10);
    }

    /** Promise 3: "3 PACE". Promise 3, Terms: "of an UNCLE twice what a MAID's is". */
    private static void promise03PaceOfAnUncle() {
        RockingRiders x = Checks.with("r5,55;u11;u99");
        Checks.due("least", x.ofRider(0, 3), 4);
        Checks.due("greatest", x.ofRider(1, 3), 20);
    }

    /** Promise 3: "4 how much he has GONE": nothing, the most there can be, nothing again. */
    private static void promise03Gone() {
        RockingRiders x = Checks.with("r5,55;u99");
        Checks.due("at first", x.ofRider(0, 4), 0);
        x.shut(0);
        Checks.due("no minute yet", x.ofRider(0, 4), 0);
        x.minutes(9);
        Checks.due("the most", x.ofRider(0, 4), 180);
        x.minutes(1);
        Checks.due("looked", x.ofRider(0, 4), 0);
    }

    /** Promise 3: "5 MILES". Promise 3, Terms: "MILES: what a RIDER has GONE by CREAKS to the MILE". */
    private static void promise03Miles() {
        RockingRiders x = Checks.with("r1,55;u99");
        Checks.due("at first", x.ofRider(0, 5), 0);
        x.shut(0);
        x.minutes(9);
        Checks.due("the most", x.ofRider(0, 5), 180);
        x.wax(9);
        Checks.due("by 9 creaks", x.ofRider(0, 5), 20);
    }

    /** Promise 3, Terms: "Quotients are cut": one creak short of a mile, of ten. */
    private static void promise03MilesAreCut() {
        RockingRiders x = Checks.with("r9,55;c89");
        x.shut(0);
        x.minutes(1);
        Checks.due("8 by 9", x.ofRider(0, 5), 0);
        x.wax(8);
        Checks.due("8 by 8", x.ofRider(0, 5), 1);
        x.minutes(8);
        x.wax(7);
        Checks.due("72 by 7", x.ofRider(0, 5), 10);
        x.wax(9);
        Checks.due("72 by 9", x.ofRider(0, 5), 8);
    }

    /** Promise 3: "6 the LAND he is IN (NONE)". Promise 3, Terms: "in none (NONE), if there are none". */
    private static void promise03InNone() {
        RockingRiders x = Checks.with("r1,09,08;c19");
        Checks.due("at first", x.ofRider(0, 6), Checks.NONE);
        x.shut(0);
        x.minutes(7);
        Checks.due("a mile short", x.ofRider(0, 6), Checks.NONE);
        x.minutes(1);
        Checks.due("there", x.ofRider(0, 6), 1);
        x.minutes(2);
        Checks.due("looked", x.ofRider(0, 6), Checks.NONE);
    }

    /** Promise 3, Terms: "He is IN the LAND that is the FARTHEST of those no FARTHER than his MILES". */
    private static void promise03InTheFarthest() {
        RockingRiders x = Checks.with("r1,04,02,99,06,01;c19");
        int[] lands = {4, 1, 1, 0, 0, 3, 3, 3, 3};
        x.shut(0);
        for (int m = 0; m < lands.length; m++) {
            x.minutes(1);
            Checks.due("behind " + (m + 1), x.ofRider(0, 6), lands[m]);
        }
    }

    /** Promise 3, Terms: "of several the least": LANDS as FAR as one another. */
    private static void promise03InTheLeastOfSeveral() {
        RockingRiders x = Checks.with("r1,01,03,03,03,02;c19");
        x.shut(0);
        x.minutes(3);
        Checks.due("of 1, 2 and 3", x.ofRider(0, 6), 1);
        RockingRiders y = Checks.with("r1,05,05,05,05,05;c91");
        y.shut(0);
        y.minutes(1);
        Checks.due("of all", y.ofRider(0, 6), 0);
    }

    /** Promise 3: "7 whether his eyes are SHUT (1, 0)". */
    private static void promise03EyesAreShut() {
        RockingRiders x = Checks.with("r1,55;c52");
        Checks.due("at first", x.ofRider(0, 7), 0);
        x.shut(0);
        Checks.due("shut", x.ofRider(0, 7), 1);
        x.minutes(2);
        Checks.due("shut still", x.ofRider(0, 7), 1);
        x.minutes(1);
        Checks.due("looked", x.ofRider(0, 7), 0);
    }

    /** Promise 3: "8 for how many MINUTES (0, if they are not)". */
    private static void promise03ForHowManyMinutes() {
        RockingRiders x = Checks.with("r1,55;c52");
        x.minutes(3);
        Checks.due("not shut", x.ofRider(0, 8), 0);
        x.shut(0);
        Checks.due("just shut", x.ofRider(0, 8), 0);
        x.minutes(2);
        Checks.due("as long as he lasts", x.ofRider(0, 8), 2);
        x.minutes(1);
        Checks.due("looked by himself", x.ofRider(0, 8), 0);
        x.shut(0);
        x.minutes(1);
        x.look(0);
        Checks.due("looked", x.ofRider(0, 8), 0);
    }

    /** Promise 3: "UNKNOWN". Promise 3, Terms: "REFUSALS: UNKNOWN (there is no such RIDER". */
    private static void promise03Unknown() {
        Edges.noRider((x, k) -> x.ofRider(k, 0), Checks.UNKNOWN);
    }

    /** Promise 3: "OUTSIDE". Promise 3, Terms: "OUTSIDE (another number is not as told)": too small, too large. */
    private static void promise03Outside() {
        for (int what : new int[] {-1, 9, 10, Edges.LEAST, Edges.MOST}) {
            Edges.same("what " + what, Edges::rich, x -> x.ofRider(0, what), Checks.OUTSIDE);
        }
    }

    /** Promise 3: "UNKNOWN; OUTSIDE": in this order. */
    private static void promise03Order() {
        Edges.same("both", Edges::rich, x -> x.ofRider(4, 9), Checks.UNKNOWN);
        Edges.same("both, below", Edges::rich, x -> x.ofRider(-1, -1), Checks.UNKNOWN);
    }

    // ---- promise 4

    /** Promise 4: "How FAR a LAND is": the first and the last, the nearest and the farthest. */
    private static void promise04Far() {
        RockingRiders x = Checks.with("r1,99,01,55,10,01;c55");
        int[] fars = {99, 1, 55, 10, 1};
        for (int land = 0; land < 5; land++) {
            Checks.due("land " + land, x.far(land), fars[land]);
        }
        x.wax(9);
        Checks.due("whatever the creaks", x.far(0), 99);
    }

    /** Promise 4: "UNKNOWN". Promise 4, Terms: "UNKNOWN (there is no such RIDER, LAND". */
    private static void promise04Unknown() {
        Edges.noLand((x, land) -> x.far(land), Checks.UNKNOWN);
    }

    // ---- promise 5

    /** Promise 5: "CREAKS to the MILE become v (1 .. 9)". */
    private static void promise05OneToNine() {
        RockingRiders x = Edges.rich();
        for (int v = 1; v <= 9; v++) {
            Checks.holds("wax " + v, x.wax(v) > 0);
            Checks.due("creaks", x.many(2), v);
        }
    }

    /** Promise 5: "what they were": of the text, then of the call ahead, the same too. */
    private static void promise05WhatTheyWere() {
        RockingRiders x = Edges.rich();
        Checks.due("of the text", x.wax(1), 4);
        Checks.due("least", x.wax(9), 1);
        Checks.due("greatest", x.wax(9), 9);
        Checks.due("the same", x.wax(4), 9);
        Checks.due("no fault is named", x.fault(), Edges.LEFT);
    }

    /**
     * Promise 5: "STATE: there is no NURSERY". Promise 5, Terms: "STATE (as told)": nor by a text that is not taken.
     */
    private static void promise05State() {
        Edges.same("none", Edges::bare, x -> x.wax(1), Checks.STATE);
        RockingRiders x = new RockingRiders();
        faulty("r5,55", 5);
        Checks.due("not taken", Checks.text(x, "r5,55"), -105);
        Checks.due("still none", x.wax(1), Checks.STATE);
    }

    /** Promise 5: "OUTSIDE": too small, too large. */
    private static void promise05Outside() {
        for (int v : new int[] {0, -1, 10, Edges.LEAST, Edges.MOST}) {
            Edges.same("v " + v, Edges::rich, x -> x.wax(v), Checks.OUTSIDE);
        }
    }

    /** Promise 5: "STATE: there is no NURSERY; OUTSIDE": in this order. */
    private static void promise05Order() {
        Edges.same("v 0", Edges::bare, x -> x.wax(0), Checks.STATE);
        Edges.same("v 10", Edges::bare, x -> x.wax(10), Checks.STATE);
    }

    // ---- promise 6

    /** Promise 6: "LEAN of a RIDER becomes v (1 .. 9)": of the first and the last. */
    private static void promise06OneToNine() {
        RockingRiders x = Edges.five();
        for (int v = 1; v <= 9; v++) {
            x.lean(0, v);
            x.lean(4, 10 - v);
            Checks.due("lean of 0", x.ofRider(0, 1), v);
            Checks.due("lean of 4", x.ofRider(4, 1), 10 - v);
            Checks.due("not of 1", x.ofRider(1, 1), 2);
        }
    }

    /** Promise 6: "what it was": of the text, then of the call ahead, the same too. */
    private static void promise06WhatItWas() {
        RockingRiders x = Edges.rich();
        Checks.due("of the text", x.lean(2, 9), 3);
        Checks.due("greatest", x.lean(2, 1), 9);
        Checks.due("least", x.lean(2, 1), 1);
        Checks.due("the same", x.lean(2, 3), 1);
        Checks.due("no fault is named", x.fault(), Edges.LEFT);
    }

    /** Promise 6: "UNKNOWN": there is no such RIDER. */
    private static void promise06Unknown() {
        Edges.noRider((x, k) -> x.lean(k, 1), Checks.UNKNOWN);
    }

    /** Promise 6: "OUTSIDE": too small, too large. */
    private static void promise06Outside() {
        for (int v : new int[] {0, -1, 10, Edges.LEAST, Edges.MOST}) {
            Edges.same("v " + v, Edges::rich, x -> x.lean(0, v), Checks.OUTSIDE);
        }
    }

    /** Promise 6: "UNKNOWN; OUTSIDE": in this order. */
    private static void promise06Order() {
        Edges.same("both", Edges::rich, x -> x.lean(4, 0), Checks.UNKNOWN);
        Edges.same("both, beyond", Edges::rich, x -> x.lean(-1, 10), Checks.UNKNOWN);
    }
}
