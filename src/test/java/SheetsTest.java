/** Promises 22 to 32. */
public final class SheetsTest {
    private static final String THREE = "r4,05,12;c73;m29;u31";

    public static void main(String[] args) {
        sheet();
        lose();
        put();
        cell();
        copy();
        copyWithinOne();
        copyFaults();
        tellAndTrace();
        traceWraps();
        call();
        as();
        fault();
        many();
        Checks.end();
    }

    private static void sheet() {
        RockingRiders x = new RockingRiders();
        for (int k = 0; k < 4; k++) {
            Checks.due("sheet " + k, x.sheet(k, k % 3, 60), 1);
            for (int i = 0; i < 60; i++) {
                Checks.due("0 at first", x.cell(k, i, k % 3), 0);
            }
            Checks.due("no cell more", x.cell(k, 60, k % 3), Checks.LOST);
        }
        x.put(0, 7, 5);
        x.put(0, 59, 6);
        Checks.due("a new row", x.sheet(0, 2, 8), 1);
        Checks.due("it is 0 again", x.cell(0, 7, 2), 0);
        Checks.due("it is shorter", x.cell(0, 8, 2), Checks.LOST);
        Checks.due("a long one again", x.sheet(0, 2, 60), 1);
        Checks.due("nothing of the old", x.cell(0, 59, 2), 0);
        Checks.due("a row of none", x.sheet(1, 1, 0), 1);
        Checks.due("which is something", x.put(1, 0, 1), Checks.INDEX);
        x.put(0, 0, 9);
        refusedSheet(x, -1, 0, 1, Checks.UNKNOWN, 0);
        refusedSheet(x, 4, 9, -1, Checks.UNKNOWN, 0);
        refusedSheet(x, 0, -1, 1, Checks.OUTSIDE, 0);
        refusedSheet(x, 0, 3, -1, Checks.OUTSIDE, 0);
        refusedSheet(x, 0, 0, 61, Checks.OUTSIDE, 0);
        refusedSheet(x, 0, 0, Integer.MAX_VALUE, Checks.OUTSIDE, 0);
        refusedSheet(x, 0, 0, -1, Checks.SIZE, 4);
        refusedSheet(x, 0, 0, Integer.MIN_VALUE, Checks.SIZE, 4);
        Checks.due("changed by none", x.cell(0, 0, 2), 9);
    }

    private static void refusedSheet(RockingRiders x, int k, int lane, int n, int want, int fault) {
        String what = "sheet(" + k + ", " + lane + ", " + n + ")";
        Checks.due(what, x.sheet(k, lane, n), want);
        Checks.due("fault of " + what, x.fault(), fault);
    }

    private static void lose() {
        RockingRiders x = new RockingRiders();
        Checks.row(x, 2, 1, 5);
        Checks.due("lose", x.lose(2), 1);
        Checks.due("lose nothing", x.lose(2), 0);
        Checks.due("put into nothing", x.put(2, 0, 1), Checks.NULL);
        Checks.due("lose names no fault", x.lose(2), 0);
        Checks.due("so it stays", x.fault(), 1);
        Checks.due("lose -1", x.lose(-1), Checks.UNKNOWN);
        Checks.due("lose 4", x.lose(4), Checks.UNKNOWN);
        Checks.due("it stays", x.fault(), 1);
        Checks.row(x, 2, 0);
        Checks.due("an empty row is something", x.lose(2), 1);
    }

    private static void put() {
        RockingRiders x = new RockingRiders();
        int[] values = {0, 127, 128, 255, 256, -128, -129, 32767, 32768, 65535, -32769, 70001,
            Integer.MAX_VALUE, Integer.MIN_VALUE};
        for (int lane = 0; lane <= 2; lane++) {
            x.sheet(0, lane, values.length);
            for (int i = 0; i < values.length; i++) {
                Checks.due("put", x.put(0, i, values[i]), 1);
                long want = lane == 0 ? (byte) values[i] : lane == 1 ? (short) values[i] : values[i];
                Checks.due(values[i] + " in lane " + lane, x.cell(0, i, lane), want);
            }
        }
        Checks.due("put -1", x.put(-1, 0, 0), Checks.UNKNOWN);
        Checks.due("no fault", x.fault(), 0);
        Checks.due("put 4", x.put(4, 0, 0), Checks.UNKNOWN);
        Checks.due("put into nothing", x.put(1, -1, 0), Checks.NULL);
        Checks.due("fault", x.fault(), 1);
        Checks.due("put below", x.put(0, -1, 0), Checks.INDEX);
        Checks.due("fault", x.fault(), 3);
        Checks.due("put above", x.put(0, values.length, 0), Checks.INDEX);
        Checks.due("put far above", x.put(0, Integer.MAX_VALUE, 0), Checks.INDEX);
        Checks.due("put", x.put(0, 0, 0), 1);
        Checks.due("no fault", x.fault(), 0);
    }

    private static void cell() {
        RockingRiders x = new RockingRiders();
        Checks.row(x, 1, 1, 10, -20);
        cellOf(x, 1, 1, 1, -20, 0);
        cellOf(x, -1, 0, 0, Checks.LOST, 0);
        cellOf(x, 4, 0, 0, Checks.LOST, 0);
        cellOf(x, 1, 0, -1, Checks.LOST, 0);
        cellOf(x, 1, 0, 3, Checks.LOST, 0);
        cellOf(x, 1, -1, 0, Checks.LOST, 2);
        cellOf(x, 1, 0, 2, Checks.LOST, 2);
        cellOf(x, 0, -1, 0, Checks.LOST, 1);
        cellOf(x, 1, -1, 1, Checks.LOST, 3);
        cellOf(x, 1, 2, 1, Checks.LOST, 3);
        cellOf(x, 1, Integer.MIN_VALUE, 1, Checks.LOST, 3);
        cellOf(x, 1, 0, 1, 10, 0);
    }

    private static void cellOf(RockingRiders x, int k, int i, int lane, long want, int fault) {
        String what = "cell(" + k + ", " + i + ", " + lane + ")";
        Checks.due(what, x.cell(k, i, lane), want);
        Checks.due("fault of " + what, x.fault(), fault);
    }

    private static void cells(RockingRiders x, int k, int lane, int... want) {
        for (int i = 0; i < want.length; i++) {
            Checks.due("cell " + i + " of " + k, x.cell(k, i, lane), want[i]);
        }
        Checks.due("no more of " + k, x.cell(k, want.length, lane), Checks.LOST);
    }

    private static void copy() {
        RockingRiders x = new RockingRiders();
        Checks.row(x, 0, 2, 1, 2, 3, 70001);
        Checks.row(x, 1, 2, 9, 9, 9);
        Checks.due("copy", x.copy(0, 2, 1, 0, 2), 2);
        cells(x, 0, 2, 1, 2, 3, 70001);
        cells(x, 1, 2, 3, 70001, 9);
        Checks.due("copy none", x.copy(0, 4, 1, 3, 0), 0);
        Checks.due("no fault", x.fault(), 0);
        Checks.due("copy all", x.copy(1, 0, 0, 1, 3), 3);
        cells(x, 0, 2, 1, 3, 70001, 9);
    }

    private static void copyWithinOne() {
        for (int lane = 0; lane <= 2; lane++) {
            RockingRiders x = new RockingRiders();
            Checks.row(x, 3, lane, 1, 2, 3, 4, 5);
            Checks.due("to the right, as they were", x.copy(3, 0, 3, 1, 4), 4);
            cells(x, 3, lane, 1, 1, 2, 3, 4);
            Checks.due("to the left, as they were", x.copy(3, 2, 3, 0, 3), 3);
            cells(x, 3, lane, 2, 3, 4, 3, 4);
            Checks.due("to itself", x.copy(3, 0, 3, 0, 5), 5);
            cells(x, 3, lane, 2, 3, 4, 3, 4);
        }
    }

    private static void copyFaults() {
        RockingRiders x = new RockingRiders();
        Checks.row(x, 0, 0, 1, 2, 3);
        Checks.row(x, 1, 0, 4, 5);
        Checks.row(x, 2, 1, 6, 7, 8);
        int[][] calls = {
            // k, i, other, j, n, what is due, the fault
            {-1, 0, 1, 0, 1, Checks.UNKNOWN, 0},
            {4, 0, 1, 0, 1, Checks.UNKNOWN, 0},
            {0, 0, -1, 0, 1, Checks.UNKNOWN, 0},
            {3, 0, 4, 0, 1, Checks.UNKNOWN, 0},
            {3, 0, 1, 0, 1, Checks.NULL, 1},
            {1, -1, 3, 0, 1, Checks.NULL, 1},
            {3, 0, 3, 0, 0, Checks.NULL, 1},
            {0, -1, 2, 0, 1, Checks.CAST, 2},
            {2, 0, 1, 0, -1, Checks.CAST, 2},
            {0, -1, 1, 0, 1, Checks.INDEX, 3},
            {0, 0, 1, -1, 1, Checks.INDEX, 3},
            {0, 0, 1, 0, -1, Checks.INDEX, 3},
            {0, 0, 1, 0, Integer.MIN_VALUE, Checks.INDEX, 3},
            {0, 3, 1, 0, 1, Checks.INDEX, 3},
            {0, 4, 1, 0, 0, Checks.INDEX, 3},
            {0, 0, 1, 3, 0, Checks.INDEX, 3},
            {0, -1, 1, 0, 0, Checks.INDEX, 3},
            {0, 0, 1, -1, 0, Checks.INDEX, 3},
            {0, 0, 1, 0, 3, Checks.INDEX, 3},
            {1, 0, 0, 0, 3, Checks.INDEX, 3},
            {0, 0, 0, 1, 3, Checks.INDEX, 3},
            {0, 1, 0, 0, Integer.MAX_VALUE, Checks.INDEX, 3},
            {0, Integer.MAX_VALUE, 0, Integer.MAX_VALUE, Integer.MAX_VALUE, Checks.INDEX, 3},
            {0, 3, 1, 2, 0, 0, 0},
        };
        for (int[] c : calls) {
            String what = "copy(" + c[0] + ", " + c[1] + ", " + c[2] + ", " + c[3] + ", " + c[4] + ")";
            Checks.due(what, x.copy(c[0], c[1], c[2], c[3], c[4]), c[5]);
            Checks.due("fault of " + what, x.fault(), c[6]);
        }
        cells(x, 0, 0, 1, 2, 3);
        cells(x, 1, 0, 4, 5);
        cells(x, 2, 1, 6, 7, 8);
    }

    private static void tellAndTrace() {
        RockingRiders x = Checks.with(THREE);
        Checks.due("trace at first", x.trace(), 0);
        Checks.due("tell of a child", x.tell(0), 7);
        Checks.due("his trace", x.trace(), 1);
        RockingRiders y = Checks.with(THREE);
        Checks.due("tell of a maid", y.tell(1), 102);
        Checks.due("her trace", y.trace(), 2 * 31 + 1);
        RockingRiders z = Checks.with(THREE);
        Checks.due("tell of an uncle", z.tell(2), 106);
        Checks.due("his trace", z.trace(), ((3 * 31 + 2) * 31 + 1) * 31 + 1);
        z.lean(2, 9);
        Checks.due("by lean", z.tell(2), 118);
        int before = z.trace();
        Checks.due("tell of nobody", z.tell(3), Checks.UNKNOWN);
        Checks.due("tell of nobody below", z.tell(-1), Checks.UNKNOWN);
        Checks.due("leaves nothing", z.trace(), before);
    }

    private static void traceWraps() {
        RockingRiders x = Checks.with(THREE);
        int trace = 0;
        for (int i = 0; i < 30; i++) {
            x.tell(0);
            trace = trace * 31 + 1;
            Checks.due("trace behind " + i, x.trace(), trace);
        }
    }

    private static void call() {
        RockingRiders x = Checks.with("r4,05;c73;m29;u31;c11");
        int[] want = {0, 1, 80, 3};
        int[] bodies = {4, 4, 5, 4};
        int trace = 0;
        for (int k = 0; k < 4; k++) {
            Checks.due("call " + k, x.call(k), want[k]);
            trace = trace * 31 + bodies[k];
            Checks.due("trace of call " + k, x.trace(), trace);
        }
        Checks.due("call of nobody", x.call(4), Checks.UNKNOWN);
        Checks.due("call of nobody below", x.call(-1), Checks.UNKNOWN);
        Checks.due("leaves nothing", x.trace(), trace);
    }

    private static void as() {
        RockingRiders x = Checks.with(THREE);
        for (int k = 0; k < 3; k++) {
            for (int kind = 0; kind < 3; kind++) {
                Checks.due("as " + k + " " + kind, x.as(k, kind), kind <= k ? 1 : Checks.CAST);
                Checks.due("fault of it", x.fault(), kind <= k ? 0 : 2);
            }
        }
        Checks.due("kind below", x.as(0, -1), Checks.OUTSIDE);
        Checks.due("kind above", x.as(0, 3), Checks.OUTSIDE);
        Checks.due("no fault", x.fault(), 0);
        Checks.due("nobody", x.as(3, 3), Checks.UNKNOWN);
        Checks.due("nobody below", x.as(-1, 0), Checks.UNKNOWN);
    }

    private static void fault() {
        RockingRiders x = Checks.with(THREE);
        x.as(0, 2);
        Checks.due("fault", x.fault(), 2);
        Checks.due("fault twice", x.fault(), 2);
        namesNone(x);
        Checks.due("calls that name none leave it", x.fault(), 2);
        for (int which = 0; which < 7; which++) {
            x.as(0, 2);
            Checks.due("a fault", x.fault(), 2);
            namesFaultsRefused(x, which);
            Checks.due("refused, so none: " + which, x.fault(), 0);
            x.as(0, 2);
            namesFaultsWell(x, which);
            Checks.due("well, so none: " + which, x.fault(), 0);
        }
    }

    private static void namesNone(RockingRiders x) {
        x.ofRider(9, 0);
        x.far(0);
        x.wax(4);
        x.lean(0, 7);
        x.minutes(1);
        x.shut(0);
        x.look(0);
        x.comes(0, 0);
        x.together(0, 1);
        x.waits(0, 0);
        x.scouts();
        x.guides(0);
        x.reading(0, 0, 0);
        x.back(1);
        x.leans(0);
        x.kinds(0);
        x.creaks();
        x.odds(0, 0, 0);
        x.lose(3);
        x.tell(0);
        x.call(0);
        x.trace();
        x.many(0);
    }

    private static void namesFaultsRefused(RockingRiders x, int which) {
        switch (which) {
            case 0 -> x.nursery(4, 0, 0, 0);
            case 1 -> x.afternoon(0, 0, 0, 21, 0);
            case 2 -> x.sheet(0, 3, 0);
            case 3 -> x.put(4, 0, 0);
            case 4 -> x.cell(0, 0, 3);
            case 5 -> x.copy(0, 0, 4, 0, 0);
            default -> x.as(0, 3);
        }
    }

    private static void namesFaultsWell(RockingRiders x, int which) {
        switch (which) {
            case 0 -> x.nursery(0, 0, 0, 3);
            case 1 -> x.afternoon(0, 0, 0, 0, 0);
            case 2 -> x.sheet(3, 0, 1);
            case 3 -> x.put(0, 0, 0);
            case 4 -> x.cell(0, 0, 0);
            case 5 -> x.copy(0, 0, 0, 0, 0);
            default -> x.as(0, 0);
        }
    }

    private static void many() {
        RockingRiders x = Checks.with(THREE);
        x.shut(0);
        x.shut(2);
        x.minutes(3);
        x.reading(0, 0, 0);
        int[] want = {2, 3, 4, 3, 1, 1};
        for (int what = 0; what < 6; what++) {
            Checks.due("many " + what, x.many(what), want[what]);
        }
        Checks.due("many -1", x.many(-1), Checks.OUTSIDE);
        Checks.due("many 6", x.many(6), Checks.OUTSIDE);
    }
}
