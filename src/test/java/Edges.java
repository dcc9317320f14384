import java.lang.reflect.InvocationTargetException;
import java.lang.reflect.Method;
import java.util.ArrayList;
import java.util.Arrays;
import java.util.Comparator;
import java.util.List;

/** What the tests of single sentences share: objects to begin with, and all that can be seen of one. */
final class Edges {
    static final int LEAST = Integer.MIN_VALUE, MOST = Integer.MAX_VALUE;
    /** Four lands and four riders, so that numbers 4 are nobody's though there is room for a fifth. */
    static final String FOUR = "r4,05,12,05,30;c73;m29;u31;c99";
    static final String FIVE = "r1,01,02,03,04,05;c11;m22;u33;c44;m99";
    /** The fault that is there ahead of a call that is looked at: of rich, five, full and bare. */
    static final int LEFT = 2;

    private static final int[] NO_NUMBERS = {-1, -32, 5, 6, 31, 32, 64, 1 << 30, LEAST, MOST};

    interface Maker {
        RockingRiders made();
    }

    interface Call {
        long on(RockingRiders x);
    }

    interface NumberedCall {
        long on(RockingRiders x, int number);
    }

    private Edges() {
    }

    /** Runs every method of a class whose name begins with promise, so that none is forgotten. */
    static void run(Class<?> tests) {
        Method[] methods = tests.getDeclaredMethods();
        Arrays.sort(methods, Comparator.comparing(Method::getName));
        for (Method m : methods) {
            if (m.getName().startsWith("promise")) {
                Checks.in(m.getName());
                runOne(m);
            }
        }
        Checks.in("");
    }

    private static void runOne(Method m) {
        try {
            m.setAccessible(true);
            m.invoke(null);
        } catch (InvocationTargetException e) {
            Checks.holds("ends without " + e.getCause(), false);
        } catch (IllegalAccessException e) {
            throw new IllegalStateException(e);
        }
    }

    // ---- objects to begin with; each has the fault LEFT

    /** Sheets of each lane and one with nothing, no nursery. */
    static RockingRiders bare() {
        RockingRiders x = new RockingRiders();
        Checks.row(x, 0, 0, Checks.codes(FOUR));
        Checks.row(x, 1, 1, 2, 0, 5, 2, 3, 1);
        Checks.row(x, 2, 2, 1, -2, 70001);
        leaveFault(x);
        return x;
    }

    /** FOUR, in its third minute: 0 and 3 are in land 0, 1 is on the way, 2 has not shut his eyes; two readings. */
    static RockingRiders rich() {
        RockingRiders x = bare();
        Checks.due("nursery", x.nursery(0, 0, 0, FOUR.length()), 4);
        x.shut(3);
        x.shut(0);
        x.minutes(2);
        x.shut(1);
        x.minutes(1);
        x.reading(0, 4, 7);
        x.reading(1, 4, 3);
        x.tell(2);
        leaveFault(x);
        return x;
    }

    /** rich, with eight readings. */
    static RockingRiders full() {
        RockingRiders x = rich();
        for (int i = 2; i < 8; i++) {
            Checks.due("reading", x.reading(3, i, 9 * i / 4), i);
        }
        return x;
    }

    /** As many lands and riders as there can be. */
    static RockingRiders five() {
        RockingRiders x = Checks.with(FIVE);
        Checks.row(x, 2, 2, 7);
        x.shut(4);
        leaveFault(x);
        return x;
    }

    private static void leaveFault(RockingRiders x) {
        x.cell(2, 0, 0);
        Checks.due("the fault that is left", x.fault(), LEFT);
    }

    // ---- what is seen of one

    /** All that calls tell which change nothing but fault(); so fault() itself is not among it. */
    static List<Long> seen(RockingRiders x) {
        List<Long> all = new ArrayList<>();
        for (int what = 0; what <= 5; what++) {
            all.add((long) x.many(what));
        }
        for (int k = 0; k < 5; k++) {
            for (int what = 0; what <= 8; what++) {
                all.add((long) x.ofRider(k, what));
            }
            all.add((long) x.far(k));
            all.add((long) x.leans(k));
            all.add((long) x.kinds(k));
        }
        all.add((long) x.creaks());
        all.add((long) x.trace());
        for (int k = 0; k < 4; k++) {
            seeSheet(x, k, all);
        }
        return all;
    }

    private static void seeSheet(RockingRiders x, int k, List<Long> all) {
        for (int lane = 0; lane <= 2; lane++) {
            long cell = 0;
            for (int i = 0; cell != Checks.LOST && i <= 60; i++) {
                cell = x.cell(k, i, lane);
                all.add(cell);
            }
            all.add((long) x.fault());
        }
    }

    // ---- calls that change nothing

    /** A call that names no faults: it answers so, and changes nothing, the fault that is left neither. */
    static void same(String what, Maker maker, Call call, long want) {
        sameWithFault(what, maker, call, want, LEFT);
    }

    /** A call that names faults: it answers so, changes nothing else, and fault() is so behind it. */
    static void sameWithFault(String what, Maker maker, Call call, long want, int fault) {
        RockingRiders x = maker.made();
        Checks.due(what, call.on(x), want);
        Checks.due("fault behind " + what, x.fault(), fault);
        Checks.holds("nothing is changed by " + what, seen(x).equals(seen(maker.made())));
    }

    /** Numbers that are too small, too large, and far off both ways, for where none of 0 .. 4 is right either. */
    static int[] noNumbers() {
        return NO_NUMBERS.clone();
    }

    /** A call that names no faults, of every number that is no rider's. */
    static void noRider(NumberedCall call, long want) {
        noLandOrRider("rider ", call, want);
    }

    /** A call that names no faults, of every number that is no land's. */
    static void noLand(NumberedCall call, long want) {
        noLandOrRider("land ", call, want);
    }

    /** FOUR and FIVE have as many lands as riders, so the same numbers are nobody's of both. */
    private static void noLandOrRider(String of, NumberedCall call, long want) {
        for (int k : NO_NUMBERS) {
            same(of + k, Edges::rich, x -> call.on(x, k), want);
            same(of + k + " of five", Edges::five, x -> call.on(x, k), want);
        }
        same(of + "4 of four", Edges::rich, x -> call.on(x, 4), want);
        same(of + "0 of none", Edges::bare, x -> call.on(x, 0), want);
    }

    /** A call that names faults, of every number that is no sheet's. */
    static void noSheet(NumberedCall call, long want) {
        for (int k : NO_NUMBERS) {
            sameWithFault("sheet " + k, Edges::rich, x -> call.on(x, k), want, 0);
        }
        sameWithFault("sheet 4", Edges::rich, x -> call.on(x, 4), want, 0);
    }
}
