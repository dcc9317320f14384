/**
 * Promises 22 to 32: for each sentence that names a boundary case a test of its own; its comment quotes the sentence.
 */
public final class SheetsEdgesTest {
    public static void main(String[] args) {
        Edges.run(SheetsEdgesTest.class);
        Checks.end();
    }

    private static void refused(String what, Edges.Call call, long want, int fault) {
        Edges.sameWithFault(what, Edges::rich, call, want, fault);
    }

    /** A sheet has just these cells, of this lane. */
    private static void cells(RockingRiders x, int k, int lane, int... want) {
        for (int i = 0; i < want.length; i++) {
            Checks.due("cell " + i + " of " + k, x.cell(k, i, lane), want[i]);
        }
        Checks.due("cell behind the last of " + k, x.cell(k, want.length, lane), Checks.LOST);
        Checks.due("fault of it", x.fault(), 3);
    }

    // ---- promise 22

    /** Promise 22: "A SHEET gets a new row: 1". Promise 22, Terms: "or a row of 0 .. 60 numbers": none, sixty. */
    private static void promise22NoneAndSixty() {
        for (int lane = 0; lane <= 2; lane++) {
            RockingRiders x = Edges.rich();
            Checks.due("none", x.sheet(3, lane, 0), 1);
            Checks.due("no fault", x.fault(), 0);
            cells(x, 3, lane);
            Checks.due("sixty", x.sheet(3, lane, 60), 1);
            cells(x, 3, lane, new int[60]);
        }
    }

    /** Promise 22, Terms: "(0 at first)": also where another row stood, a longer one or a shorter one. */
    private static void promise22ZeroAtFirst() {
        RockingRiders x = Edges.rich();
        x.sheet(2, 2, 2);
        cells(x, 2, 2, 0, 0);
        x.put(2, 1, 7);
        x.sheet(2, 2, 3);
        cells(x, 2, 2, 0, 0, 0);
        x.put(2, 2, 7);
        x.lose(2);
        x.sheet(2, 2, 3);
        cells(x, 2, 2, 0, 0, 0);
    }

    /**
     * Promise 22: "A SHEET gets a new row". Promise 22, Terms: "of a LANE": of another one than its old one; the
     * other SHEETS keep theirs.
     */
    private static void promise22OfAnotherLane() {
        RockingRiders x = Edges.rich();
        x.sheet(1, 0, 1);
        cells(x, 1, 0, 0);
        Checks.due("no shorts any more", x.cell(1, 0, 1), Checks.LOST);
        Checks.due("fault", x.fault(), 2);
        cells(x, 2, 2, 1, -2, 70001);
        Checks.due("nothing still", x.lose(3), 0);
    }

    /** Promise 22: "UNKNOWN": there is no such SHEET. Promise 22, Terms: "SHEETS 0 .. 3": the last is one. */
    private static void promise22Unknown() {
        Edges.noSheet((x, k) -> x.sheet(k, 0, 1), Checks.UNKNOWN);
        Checks.due("the last", Edges.rich().sheet(3, 0, 1), 1);
    }

    /** Promise 22: "OUTSIDE: lane": too small, too large. */
    private static void promise22OutsideLane() {
        for (int lane : new int[] {-1, 3, Edges.LEAST, Edges.MOST}) {
            refused("lane " + lane, x -> x.sheet(0, lane, 1), Checks.OUTSIDE, 0);
            refused("lane " + lane + " of nothing", x -> x.sheet(3, lane, 1), Checks.OUTSIDE, 0);
        }
    }

    /** Promise 22: "n above 60". */
    private static void promise22NAbove60() {
        for (int n : new int[] {61, 62, 1 << 30, Edges.MOST}) {
            refused("n " + n, x -> x.sheet(0, 0, n), Checks.OUTSIDE, 0);
            refused("n " + n + " of nothing", x -> x.sheet(3, 0, n), Checks.OUTSIDE, 0);
        }
    }

    /** Promise 22: "SIZE". Promise 22, Terms: "4 SIZE (a length below 0)": no OUTSIDE, and 0 is none. */
    private static void promise22Size() {
        for (int n : new int[] {-1, -61, Edges.LEAST}) {
            refused("n " + n, x -> x.sheet(0, 0, n), Checks.SIZE, 4);
            refused("n " + n + " of nothing", x -> x.sheet(3, 0, n), Checks.SIZE, 4);
        }
    }

    /** Promise 22: "UNKNOWN; OUTSIDE: lane, n above 60; SIZE": in this order. */
    private static void promise22Order() {
        refused("no sheet, no lane", x -> x.sheet(4, 3, 1), Checks.UNKNOWN, 0);
        refused("no sheet, n above", x -> x.sheet(-1, 0, 61), Checks.UNKNOWN, 0);
        refused("no sheet, n below", x -> x.sheet(4, 0, -1), Checks.UNKNOWN, 0);
        refused("no lane, n below", x -> x.sheet(0, 3, -1), Checks.OUTSIDE, 0);
    }

    // ---- promise 23

    /** Promise 23: "A SHEET has nothing: 1": an empty row is something too. */
    private static void promise23HadSomething() {
        RockingRiders x = Edges.rich();
        Checks.due("lose", x.lose(2), 1);
        Checks.due("it has nothing", x.put(2, 0, 0), Checks.NULL);
        x.sheet(3, 0, 0);
        Checks.due("lose an empty row", x.lose(3), 1);
        Checks.due("it has nothing", x.put(3, 0, 0), Checks.NULL);
        cells(x, 1, 1, 2, 0, 5, 2, 3, 1);
    }

    /** Promise 23: "0: it had nothing": at first, and when it is lost. */
    private static void promise23HadNothing() {
        Edges.same("at first", Edges::rich, x -> x.lose(3), 0);
        RockingRiders x = Edges.rich();
        Checks.due("lose", x.lose(0), 1);
        Checks.due("no fault is named", x.fault(), Edges.LEFT);
        Checks.due("lose again", x.lose(0), 0);
        Checks.due("no fault is named", x.fault(), Edges.LEFT);
    }

    /** Promise 23: "UNKNOWN": there is no such SHEET; the call names no fault. */
    private static void promise23Unknown() {
        for (int k : new int[] {-1, 4, 5, 32, Edges.LEAST, Edges.MOST}) {
            Edges.same("sheet " + k, Edges::rich, x -> x.lose(k), Checks.UNKNOWN);
        }
    }

    // ---- promise 24

    /** Promise 24: "Cell i of a SHEET becomes v: 1": the first of one, the first and the last of sixty. */
    private static void promise24FirstAndLast() {
        RockingRiders x = Edges.rich();
        x.sheet(3, 0, 1);
        Checks.due("the only one", x.put(3, 0, 7), 1);
        cells(x, 3, 0, 7);
        x.sheet(3, 2, 60);
        Checks.due("the first", x.put(3, 0, 8), 1);
        Checks.due("the last", x.put(3, 59, 9), 1);
        int[] want = new int[60];
        want[0] = 8;
        want[59] = 9;
        cells(x, 3, 2, want);
        Checks.due("no fault", putFault(x), 0);
    }

    private static int putFault(RockingRiders x) {
        x.put(3, 59, 9);
        return x.fault();
    }

    private static void put(int lane, int v, int want) {
        RockingRiders x = new RockingRiders();
        x.sheet(0, lane, 1);
        Checks.due("put " + v, x.put(0, 0, v), 1);
        Checks.due(v + " in lane " + lane, x.cell(0, 0, lane), want);
    }

    /**
     * Promise 24, Terms: "0 bytes" and "what comes to a cell of it is cut to its LANE (with its sign)": bytes wrap.
     */
    private static void promise24CutToBytes() {
        put(0, 127, 127);
        put(0, 128, -128);
        put(0, 255, -1);
        put(0, 256, 0);
        put(0, -128, -128);
        put(0, -129, 127);
        put(0, 32767, -1);
        put(0, Edges.MOST, -1);
        put(0, Edges.LEAST, 0);
    }

    /**
     * Promise 24, Terms: "1 shorts" and "what comes to a cell of it is cut to its LANE (with its sign)": shorts wrap.
     */
    private static void promise24CutToShorts() {
        put(1, 128, 128);
        put(1, 32767, 32767);
        put(1, 32768, -32768);
        put(1, 65535, -1);
        put(1, 65536, 0);
        put(1, -32768, -32768);
        put(1, -32769, 32767);
        put(1, Edges.MOST, -1);
        put(1, Edges.LEAST, 0);
    }

    /**
     * Promise 24, Terms: "2 ints" and "what comes to a cell of it is cut to its LANE (with its sign)": ints are
     * whole.
     */
    private static void promise24IntsAreWhole() {
        put(2, 65536, 65536);
        put(2, -32769, -32769);
        put(2, Edges.MOST, Edges.MOST);
        put(2, Edges.LEAST, Edges.LEAST);
    }

    /** Promise 24: "UNKNOWN": there is no such SHEET. */
    private static void promise24Unknown() {
        Edges.noSheet((x, k) -> x.put(k, 0, 1), Checks.UNKNOWN);
    }

    /** Promise 24: "NULL": at first, and when it is lost. */
    private static void promise24Null() {
        refused("at first", x -> x.put(3, 0, 1), Checks.NULL, 1);
        RockingRiders x = Edges.rich();
        x.lose(0);
        Checks.due("lost", x.put(0, 0, 1), Checks.NULL);
        Checks.due("fault", x.fault(), 1);
    }

    /** Promise 24: "INDEX": too small, too large, of an empty row. Promise 24, Terms: "3 INDEX". */
    private static void promise24Index() {
        for (int i : new int[] {-1, 3, 4, 60, Edges.LEAST, Edges.MOST}) {
            refused("cell " + i, x -> x.put(2, i, 1), Checks.INDEX, 3);
        }
        RockingRiders x = Edges.rich();
        x.sheet(3, 2, 0);
        Checks.due("of an empty row", x.put(3, 0, 1), Checks.INDEX);
        x.sheet(3, 2, 60);
        Checks.due("behind sixty", x.put(3, 60, 1), Checks.INDEX);
        x.sheet(3, 2, 1);
        Checks.due("of a shorter row", x.put(3, 1, 1), Checks.INDEX);
    }

    /** Promise 24: "UNKNOWN; NULL; INDEX": in this order. */
    private static void promise24Order() {
        refused("no sheet, no cell", x -> x.put(4, -1, 1), Checks.UNKNOWN, 0);
        refused("nothing, no cell", x -> x.put(3, -1, 1), Checks.NULL, 1);
        refused("nothing, no cell above", x -> x.put(3, 60, 1), Checks.NULL, 1);
    }

    // ---- promise 25

    private static void cell(int k, int i, int lane, long want, int fault) {
        refused("cell " + i + " of " + k + " as " + lane, x -> x.cell(k, i, lane), want, fault);
    }

    /** Promise 25: "Cell i of what a SHEET has, taken as a row of a LANE": the first, the last, of each LANE. */
    private static void promise25FirstAndLast() {
        cell(0, 0, 0, 'r', 0);
        cell(0, 29, 0, '9', 0);
        cell(1, 0, 1, 2, 0);
        cell(1, 5, 1, 1, 0);
        cell(2, 0, 2, 1, 0);
        cell(2, 2, 2, 70001, 0);
        RockingRiders x = Edges.rich();
        x.sheet(3, 0, 60);
        Checks.due("of sixty", x.cell(3, 59, 0), 0);
    }

    /**
     * Promise 25: "LOST: UNKNOWN". Promise 25, Terms: "UNKNOWN (there is no such RIDER, LAND, SHEET, place of a
     * row)".
     */
    private static void promise25Unknown() {
        Edges.noSheet((x, k) -> x.cell(k, 0, 0), Checks.LOST);
    }

    /** Promise 25: "OUTSIDE: lane": too small, too large; of nothing too. */
    private static void promise25OutsideLane() {
        for (int lane : new int[] {-1, 3, Edges.LEAST, Edges.MOST}) {
            cell(2, 0, lane, Checks.LOST, 0);
            cell(3, 0, lane, Checks.LOST, 0);
        }
    }

    /** Promise 25: "FAULTS CAST (nothing is no CAST)": another LANE, below it and above it. */
    private static void promise25Cast() {
        cell(0, 0, 1, Checks.LOST, 2);
        cell(0, 0, 2, Checks.LOST, 2);
        cell(1, 0, 0, Checks.LOST, 2);
        cell(1, 0, 2, Checks.LOST, 2);
        cell(2, 0, 0, Checks.LOST, 2);
        cell(2, 0, 1, Checks.LOST, 2);
    }

    /** Promise 25: "(nothing is no CAST), NULL": whatever the LANE, also that of the row that was lost. */
    private static void promise25Null() {
        for (int lane = 0; lane <= 2; lane++) {
            cell(3, 0, lane, Checks.LOST, 1);
            RockingRiders x = Edges.rich();
            x.lose(2);
            Checks.due("lost", x.cell(2, 0, lane), Checks.LOST);
            Checks.due("fault", x.fault(), 1);
        }
    }

    /** Promise 25: "INDEX": too small, too large, of an empty row. */
    private static void promise25Index() {
        for (int i : new int[] {-1, 3, 4, 60, Edges.LEAST, Edges.MOST}) {
            cell(2, i, 2, Checks.LOST, 3);
        }
        RockingRiders x = Edges.rich();
        x.sheet(3, 2, 0);
        Checks.due("of an empty row", x.cell(3, 0, 2), Checks.LOST);
        Checks.due("fault", x.fault(), 3);
    }

    /** Promise 25: "LOST: UNKNOWN, OUTSIDE: lane; FAULTS CAST (nothing is no CAST), NULL, INDEX": in this order. */
    private static void promise25Order() {
        cell(4, -1, 0, Checks.LOST, 0);
        cell(2, -1, 3, Checks.LOST, 0);
        cell(3, -1, 3, Checks.LOST, 0);
        cell(2, -1, 0, Checks.LOST, 2);
        cell(2, 60, 1, Checks.LOST, 2);
        cell(3, -1, 0, Checks.LOST, 1);
    }

    // ---- promise 26

    /** Two rows of ints, of five and of three cells; fault() is 0. */
    private static RockingRiders twoRows() {
        RockingRiders x = new RockingRiders();
        Checks.row(x, 0, 2, 1, 2, 3, 4, 70001);
        Checks.row(x, 3, 2, 6, 7, -8);
        return x;
    }

    /**
     * Promise 26: "n cells of a SHEET from i on go to another one (perhaps the same) from j on, as they were: n":
     * none, from a place or from behind the last, and all.
     */
    private static void promise26NoneAndAll() {
        Edges.sameWithFault("none", SheetsEdgesTest::twoRows, x -> x.copy(0, 0, 3, 0, 0), 0, 0);
        Edges.sameWithFault("none within", SheetsEdgesTest::twoRows, x -> x.copy(0, 2, 3, 1, 0), 0, 0);
        Edges.sameWithFault("none behind", SheetsEdgesTest::twoRows, x -> x.copy(0, 5, 3, 3, 0), 0, 0);
        RockingRiders x = twoRows();
        Checks.due("all of one", x.copy(3, 0, 0, 2, 3), 3);
        cells(x, 0, 2, 1, 2, 6, 7, -8);
        cells(x, 3, 2, 6, 7, -8);
        Checks.due("to all of one", x.copy(0, 0, 3, 0, 3), 3);
        cells(x, 3, 2, 1, 2, 6);
        Checks.due("the last to the last", x.copy(0, 4, 3, 2, 1), 1);
        cells(x, 3, 2, 1, 2, -8);
        Checks.due("sixty", sixty(), 60);
    }

    private static int sixty() {
        RockingRiders x = new RockingRiders();
        x.sheet(0, 1, 60);
        x.sheet(1, 1, 60);
        x.put(0, 59, 5);
        int n = x.copy(0, 0, 1, 0, 60);
        Checks.due("the sixtieth", x.cell(1, 59, 1), 5);
        return n;
    }

    /** Promise 26: "(perhaps the same) from j on, as they were": to the right over themselves. */
    private static void promise26ToTheRight() {
        RockingRiders x = twoRows();
        Checks.due("by one", x.copy(0, 0, 0, 1, 4), 4);
        cells(x, 0, 2, 1, 1, 2, 3, 4);
        Checks.due("by two", x.copy(0, 0, 0, 2, 3), 3);
        cells(x, 0, 2, 1, 1, 1, 1, 2);
    }

    /**
     * Promise 26: "(perhaps the same) from j on, as they were": to the left over themselves, and to where they are.
     */
    private static void promise26ToTheLeft() {
        RockingRiders x = twoRows();
        Checks.due("by one", x.copy(0, 1, 0, 0, 4), 4);
        cells(x, 0, 2, 2, 3, 4, 70001, 70001);
        Checks.due("by none", x.copy(0, 0, 0, 0, 5), 5);
        cells(x, 0, 2, 2, 3, 4, 70001, 70001);
    }

    /** Promise 26: "UNKNOWN": there is no such SHEET: the first. */
    private static void promise26UnknownFirst() {
        Edges.noSheet((x, k) -> x.copy(k, 0, 2, 0, 1), Checks.UNKNOWN);
    }

    /** Promise 26: "UNKNOWN": there is no such SHEET: the other. */
    private static void promise26UnknownOther() {
        Edges.noSheet((x, k) -> x.copy(2, 0, k, 0, 1), Checks.UNKNOWN);
        Edges.noSheet((x, k) -> x.copy(k, 0, k, 0, 1), Checks.UNKNOWN);
    }

    /** Promise 26: "FAULTS NULL (the first, the other)": each, and both. */
    private static void promise26Null() {
        refused("the first", x -> x.copy(3, 0, 2, 0, 1), Checks.NULL, 1);
        refused("the other", x -> x.copy(2, 0, 3, 0, 1), Checks.NULL, 1);
        refused("both", x -> x.copy(3, 0, 3, 0, 0), Checks.NULL, 1);
        refused("the other, of none", x -> x.copy(2, 0, 3, 0, 0), Checks.NULL, 1);
    }

    /**
     * Promise 26: "CAST (unlike LANES)": also of none. Promise 26, Terms: "it answers -10 less it (LOST, where a long
     * is answered, as for refusals) and changes nothing; fault() tells it".
     */
    private static void promise26Cast() {
        refused("bytes to shorts", x -> x.copy(0, 0, 1, 0, 1), Checks.CAST, 2);
        refused("shorts to bytes", x -> x.copy(1, 0, 0, 0, 1), Checks.CAST, 2);
        refused("ints to shorts", x -> x.copy(2, 0, 1, 0, 1), Checks.CAST, 2);
        refused("shorts to ints", x -> x.copy(1, 0, 2, 0, 0), Checks.CAST, 2);
    }

    private static void index(int k, int i, int other, int j, int n) {
        String what = "copy " + k + " " + i + " " + other + " " + j + " " + n;
        Edges.sameWithFault(what, SheetsEdgesTest::twoRows, x -> x.copy(k, i, other, j, n), Checks.INDEX, 3);
    }

    /** Promise 26: "INDEX: i, j, n below 0 or beyond": i. */
    private static void promise26IndexI() {
        for (int i : new int[] {-1, 5, 6, Edges.LEAST, Edges.MOST}) {
            index(0, i, 3, 0, 1);
        }
        index(0, 3, 3, 0, 3);
        index(0, 4, 3, 0, 2);
    }

    /** Promise 26: "INDEX: i, j, n below 0 or beyond": j. */
    private static void promise26IndexJ() {
        for (int j : new int[] {-1, 3, 4, Edges.LEAST, Edges.MOST}) {
            index(0, 0, 3, j, 1);
        }
        index(0, 0, 3, 1, 3);
        index(0, 0, 3, 2, 2);
        index(0, 0, 0, 1, 5);
    }

    /** Promise 26: "INDEX: i, j, n below 0 or beyond": n, a SIZE it is not. */
    private static void promise26IndexN() {
        for (int n : new int[] {-1, 4, 5, 6, Edges.LEAST, Edges.MOST}) {
            index(0, 0, 3, 0, n);
        }
        index(3, 0, 0, 0, 4);
        index(0, 1, 0, 1, Edges.MOST);
        index(0, Edges.MOST, 0, Edges.MOST, Edges.MOST);
        index(0, Edges.MOST, 0, 0, Edges.MOST);
    }

    /**
     * Promise 26, Terms: "of cells from i on also where i is not 0 .. how many there are, if none of them is taken,
     * too": of each of both.
     */
    private static void promise26IndexOfNone() {
        for (int i : new int[] {-1, Edges.LEAST, 6, Edges.MOST}) {
            index(0, i, 3, 0, 0);
            index(3, 0, 0, i, 0);
        }
        index(3, 4, 0, 0, 0);
        index(0, 0, 3, 4, 0);
    }

    /** Promise 26: "UNKNOWN; FAULTS NULL (the first, the other), CAST (unlike LANES), INDEX": in this order. */
    private static void promise26Order() {
        refused("no other sheet, the first nothing", x -> x.copy(3, 0, 4, 0, 1), Checks.UNKNOWN, 0);
        refused("no first sheet, the other nothing", x -> x.copy(4, 0, 3, 0, 1), Checks.UNKNOWN, 0);
        refused("no sheet, i below", x -> x.copy(4, -1, 0, 0, 1), Checks.UNKNOWN, 0);
        refused("the first nothing, i below", x -> x.copy(3, -1, 0, 0, 1), Checks.NULL, 1);
        refused("the other nothing, n below", x -> x.copy(0, 0, 3, 0, -1), Checks.NULL, 1);
        refused("unlike lanes, i below", x -> x.copy(0, -1, 1, 0, 1), Checks.CAST, 2);
        refused("unlike lanes, j beyond", x -> x.copy(0, 0, 1, 9, 1), Checks.CAST, 2);
        refused("unlike lanes, n below", x -> x.copy(0, 0, 1, 0, -1), Checks.CAST, 2);
    }

    // ---- promise 27

    private static void tells(String rider, int want, int... bodies) {
        RockingRiders x = Checks.with("r1,55;" + rider);
        Checks.due("tells " + rider, x.tell(0), want);
        int trace = 0;
        for (int body : bodies) {
            trace = 31 * trace + body;
        }
        Checks.due("trace of " + rider, x.trace(), trace);
    }

    /** Promise 27: "TELLING of a RIDER". Promise 27, Terms: "CHILD (1): LEAN": the least, the greatest. */
    private static void promise27Child() {
        tells("c15", 1, 1);
        tells("c95", 9, 1);
    }

    /** Promise 27, Terms: "MAID (2): what CHILD's gives, and 100": the least, the greatest. */
    private static void promise27Maid() {
        tells("m15", 101, 2, 1);
        tells("m95", 109, 2, 1);
    }

    /**
     * Promise 27, Terms: "UNCLE (3): what MAID's gives, and what CHILD's gives (MAID's left out)": the least, the
     * greatest.
     */
    private static void promise27Uncle() {
        tells("u15", 102, 3, 2, 1, 1);
        tells("u95", 118, 3, 2, 1, 1);
    }

    /** Promise 27: "UNKNOWN": there is no such RIDER; and nothing is left in TRACE. */
    private static void promise27Unknown() {
        Edges.noRider((x, k) -> x.tell(k), Checks.UNKNOWN);
    }

    // ---- promise 28

    /**
     * Promise 28: "How he is CALLED". Promise 28, Terms: "CALLED to tea by a lent body (4): his number": the first,
     * the last.
     */
    private static void promise28ByALentBody() {
        RockingRiders x = Checks.with("r1,55;c55;u55;m55;u55;c55");
        int[] riders = {0, 2, 4};
        int trace = 0;
        for (int k : riders) {
            Checks.due("call " + k, x.call(k), k);
            trace = 31 * trace + 4;
            Checks.due("trace of it", x.trace(), trace);
        }
        Checks.due("no fault", x.fault(), 0);
    }

    /** Promise 28, Terms: "UNCLES have their own (5): 80": whatever their number. */
    private static void promise28Uncles() {
        RockingRiders x = Checks.with("r1,55;u55;c55;c55;c55;u55");
        Checks.due("the first", x.call(0), 80);
        Checks.due("trace of it", x.trace(), 5);
        Checks.due("the last", x.call(4), 80);
        Checks.due("trace of both", x.trace(), 160);
    }

    /** Promise 28: "UNKNOWN": there is no such RIDER; and nothing is left in TRACE. */
    private static void promise28Unknown() {
        Edges.noRider((x, k) -> x.call(k), Checks.UNKNOWN);
    }

    // ---- promise 29

    /**
     * Promise 29: "A RIDER, taken as one of a kind: 1". Promise 29, Terms: "Kinds: 0 CHILD (c); 1 MAID (m), a CHILD;
     * 2 UNCLE (u), a MAID": his own, and all that it is.
     */
    private static void promise29WhatHeIs() {
        int[][] calls = {{0, 0}, {1, 0}, {1, 1}, {2, 0}, {2, 1}, {2, 2}};
        for (int[] c : calls) {
            refused(c[0] + " as " + c[1], x -> x.as(c[0], c[1]), 1, 0);
        }
    }

    /** Promise 29: "CAST: he is none". Promise 29, Terms: "2 CAST (it is of another LANE, kind)". */
    private static void promise29Cast() {
        int[][] calls = {{0, 1}, {0, 2}, {1, 2}, {3, 1}, {3, 2}};
        for (int[] c : calls) {
            refused(c[0] + " as " + c[1], x -> x.as(c[0], c[1]), Checks.CAST, 2);
        }
    }

    /** Promise 29: "UNKNOWN": there is no such RIDER. */
    private static void promise29Unknown() {
        for (int k : Edges.noNumbers()) {
            refused("rider " + k, x -> x.as(k, 0), Checks.UNKNOWN, 0);
            Edges.sameWithFault("rider " + k + " of five", Edges::five, x -> x.as(k, 0), Checks.UNKNOWN, 0);
        }
        refused("4 of four", x -> x.as(4, 0), Checks.UNKNOWN, 0);
        Edges.sameWithFault("0 of none", Edges::bare, x -> x.as(0, 0), Checks.UNKNOWN, 0);
    }

    /** Promise 29: "OUTSIDE": too small, too large. */
    private static void promise29Outside() {
        for (int kind : new int[] {-1, 3, Edges.LEAST, Edges.MOST}) {
            refused("child as " + kind, x -> x.as(0, kind), Checks.OUTSIDE, 0);
            refused("uncle as " + kind, x -> x.as(2, kind), Checks.OUTSIDE, 0);
        }
    }

    /** Promise 29: "UNKNOWN; OUTSIDE; CAST: he is none": in this order. */
    private static void promise29Order() {
        refused("nobody, no kind", x -> x.as(4, 3), Checks.UNKNOWN, 0);
        refused("nobody, an uncle", x -> x.as(4, 2), Checks.UNKNOWN, 0);
        refused("child, no kind", x -> x.as(0, 3), Checks.OUTSIDE, 0);
    }

    // ---- promise 30

    /** Promise 30: "TRACE". Promise 30, Terms: "0 at first": and still, when other calls have been. */
    private static void promise30ZeroAtFirst() {
        Checks.due("new", new RockingRiders().trace(), 0);
        RockingRiders x = Checks.with(Edges.FIVE);
        x.shut(0);
        x.minutes(9);
        x.as(0, 0);
        Checks.due("nobody told", x.trace(), 0);
    }

    /**
     * Promise 30, Terms: "TRACE (an int that wraps, 0 at first, becomes 31 times it and the number)": above the
     * greatest int, and to below 0.
     */
    private static void promise30Wraps() {
        RockingRiders x = Checks.with("r1,55;c55");
        long trace = 0;
        boolean wrapped = false;
        boolean below = false;
        for (int i = 0; i < 60; i++) {
            x.call(0);
            wrapped |= 31 * trace + 4 > Edges.MOST;
            trace = (int) (31 * trace + 4);
            below |= trace < 0;
            Checks.due("behind " + i, x.trace(), trace);
        }
        Checks.holds("it wrapped", wrapped && below);
    }

    /** Promise 30, Terms: "TELLING of RIDERS by bodies that leave their number in TRACE" and "as they begin". */
    private static void promise30AsTheyBegin() {
        RockingRiders x = Checks.with("r1,55;c55;m55;u55");
        x.tell(2);
        Checks.due("uncle, maid, child, child", x.trace(), ((3 * 31 + 2) * 31 + 1) * 31 + 1);
        Checks.due("twice", x.trace(), ((3 * 31 + 2) * 31 + 1) * 31 + 1);
        RockingRiders y = Checks.with("r1,55;c55;m55;u55");
        y.tell(1);
        Checks.due("maid, child", y.trace(), 2 * 31 + 1);
    }

    // ---- promise 31

    /** A call that names faults, told so that the same one comes to a fault, is refused or goes well. */
    private interface Naming {
        long call(RockingRiders x, int sheet, int lane);
    }

    private static final Naming[] NAMING = {
        (x, sheet, lane) -> x.nursery(sheet, lane, 0, 1),
        (x, sheet, lane) -> x.afternoon(sheet, lane, 0, 1, 0),
        (x, sheet, lane) -> x.sheet(sheet, lane, sheet == 3 ? -1 : 1),
        (x, sheet, lane) -> x.put(lane == 3 ? 4 : sheet, 0, 0),
        (x, sheet, lane) -> x.cell(sheet, 0, lane),
        (x, sheet, lane) -> x.copy(sheet, 0, lane == 3 ? 4 : sheet, 0, 1),
        (x, sheet, lane) -> x.as(lane == 3 ? 4 : 0, sheet == 3 ? 2 : 0),
    };

    /** Promise 31: "(0 ahead of any)": at first, and when only calls have been that name none. */
    private static void promise31AheadOfAny() {
        RockingRiders x = new RockingRiders();
        Checks.due("at first", x.fault(), 0);
        x.lose(0);
        x.many(9);
        x.minutes(1);
        x.reading(0, 0, 0);
        x.odds(0, 0, 0);
        Checks.due("still", x.fault(), 0);
    }

    /**
     * Promise 31: "The FAULT of the latest call that names one". Promise 31, Terms: "it answers -10 less it" and
     * "fault() tells it": of each call that names one, also twice.
     */
    private static void promise31OfTheLatest() {
        int[] want = {1, 1, 4, 1, 1, 1, 2};
        for (int c = 0; c < NAMING.length; c++) {
            RockingRiders x = Edges.rich();
            x.put(2, -1, 0);
            Checks.due("another ahead", x.fault(), 3);
            long answer = NAMING[c].call(x, 3, 0);
            Checks.holds("the answer of " + c, answer == -10 - want[c] || c == 4 && answer == Checks.LOST);
            Checks.due("fault of " + c, x.fault(), want[c]);
            Checks.due("and again", x.fault(), want[c]);
        }
    }

    /** Promise 31: "0: it came to none": of each call that names one, a text that is not taken too. */
    private static void promise31CameToNone() {
        for (int c = 0; c < NAMING.length; c++) {
            RockingRiders x = Edges.rich();
            x.put(2, -1, 0);
            long answer = NAMING[c].call(x, 1, 1);
            Checks.holds("the answer of " + c, c == 0 ? answer == -100 : answer >= 0);
            Checks.due("fault of " + c, x.fault(), 0);
        }
    }

    /**
     * Promise 31: "or was refused". Promise 31, Terms: "They change nothing (but fault(), of a call that names
     * FAULTS)": of each call that names one.
     */
    private static void promise31WasRefused() {
        for (int c = 0; c < NAMING.length; c++) {
            RockingRiders x = Edges.rich();
            x.put(2, -1, 0);
            long answer = NAMING[c].call(x, 1, 3);
            Checks.holds("the answer of " + c, answer == Checks.UNKNOWN || answer == Checks.OUTSIDE
                || answer == Checks.LOST);
            Checks.due("fault of " + c, x.fault(), 0);
        }
    }

    /** Promise 31: "the latest call that names one": all others leave it, going well or refused. */
    private static void promise31LeftByOthers() {
        RockingRiders x = Edges.rich();
        Edges.NumberedCall[] others = {RockingRiders::wax, RockingRiders::minutes, RockingRiders::shut,
            RockingRiders::look, RockingRiders::far, RockingRiders::guides, RockingRiders::back, RockingRiders::leans,
            RockingRiders::kinds, RockingRiders::tell, RockingRiders::call, RockingRiders::many, RockingRiders::lose,
            (y, k) -> y.ofRider(k, 0), (y, k) -> y.lean(k, 1), (y, k) -> y.comes(k, 0), (y, k) -> y.together(k, 0),
            (y, k) -> y.waits(0, k), (y, k) -> y.reading(k, 0, 0), (y, k) -> y.odds(k, 0, 0), (y, k) -> y.scouts(),
            (y, k) -> y.creaks(), (y, k) -> y.trace(), (y, k) -> y.fault()};
        for (int c = 0; c < others.length; c++) {
            for (int k : new int[] {1, 0, -9, 99}) {
                others[c].on(x, k);
                Checks.due("fault behind " + c + " of " + k, x.fault(), Edges.LEFT);
            }
        }
    }

    // ---- promise 32

    /** Promise 32: "(0 all without a NURSERY)": also when a text was not taken. */
    private static void promise32WithoutANursery() {
        for (int what = 0; what <= 5; what++) {
            int asked = what;
            Edges.same("many " + what, Edges::bare, x -> x.many(asked), 0);
            RockingRiders x = new RockingRiders();
            Checks.text(x, Edges.FIVE + ";");
            Checks.due("not taken, " + what, x.many(what), 0);
        }
    }

    /** Promise 32: "How many: 0 LANDS, 1 RIDERS": the fewest, the most. */
    private static void promise32LandsAndRiders() {
        RockingRiders x = Checks.with("r1,55;c55");
        Checks.due("lands", x.many(0), 1);
        Checks.due("riders", x.many(1), 1);
        RockingRiders y = Edges.five();
        Checks.due("five lands", y.many(0), 5);
        Checks.due("five riders", y.many(1), 5);
        RockingRiders z = Checks.with("r1,55,55;c55");
        Checks.due("more lands than riders", z.many(0), 2);
        Checks.due("fewer riders than lands", z.many(1), 1);
    }

    /** Promise 32: "2 CREAKS to the MILE": of the text, and what they became. */
    private static void promise32Creaks() {
        RockingRiders x = Edges.rich();
        Checks.due("of the text", x.many(2), 4);
        x.wax(9);
        Checks.due("became", x.many(2), 9);
    }

    /** Promise 32: "3 which MINUTE it is": 0, and more than one call's. */
    private static void promise32Minute() {
        RockingRiders x = Checks.with("r1,55;c55");
        Checks.due("at first", x.many(3), 0);
        for (int i = 1; i <= 100; i++) {
            x.minutes(99);
            Checks.due("behind " + i, x.many(3), 99 * i);
        }
    }

    /** Promise 32: "4 RIDERS whose eyes are SHUT": none, all. */
    private static void promise32Shut() {
        RockingRiders x = Checks.with(Edges.FIVE);
        Checks.due("none", x.many(4), 0);
        for (int k = 0; k < 5; k++) {
            x.shut(k);
            Checks.due("shut", x.many(4), k + 1);
        }
        x.minutes(10);
        Checks.due("none again", x.many(4), 0);
    }

    /** Promise 32: "5 READINGS": none, eight. */
    private static void promise32Readings() {
        Checks.due("none", Edges.five().many(5), 0);
        Checks.due("eight", Edges.full().many(5), 8);
    }

    /** Promise 32: "OUTSIDE": too small, too large. */
    private static void promise32Outside() {
        for (int what : new int[] {-1, 6, 7, Edges.LEAST, Edges.MOST}) {
            Edges.same("what " + what, Edges::rich, x -> x.many(what), Checks.OUTSIDE);
            Edges.same("what " + what + " of none", Edges::bare, x -> x.many(what), Checks.OUTSIDE);
        }
    }
}
