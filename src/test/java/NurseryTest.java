/** Promises 1 to 6. */
public final class NurseryTest {
    private static final String FOUR = "r4,05,12,05;c73;m29;u31;c99";
    private static final String GREATEST = "r9,01,10,99,50,09;c11;m22;u33;c99;m19";

    public static void main(String[] args) {
        aNewObject();
        theConstants();
        textsThatAreTaken();
        firstFaults();
        textsOfEveryLane();
        nurseryRefusals();
        aTextMakesAllAnew();
        aTextNotTakenChangesNothing();
        ofRider();
        inWhichLand();
        far();
        wax();
        lean();
        Checks.end();
    }

    private static void aNewObject() {
        RockingRiders x = new RockingRiders();
        for (int what = 0; what <= 5; what++) {
            Checks.due("new: many " + what, x.many(what), 0);
        }
        Checks.due("new: trace", x.trace(), 0);
        Checks.due("new: fault", x.fault(), 0);
        for (int k = 0; k < 4; k++) {
            Checks.due("new: lose " + k, x.lose(k), 0);
            Checks.due("new: put " + k, x.put(k, 0, 1), Checks.NULL);
        }
        Checks.due("new: ofRider", x.ofRider(0, 0), Checks.UNKNOWN);
        Checks.due("new: far", x.far(0), Checks.UNKNOWN);
        Checks.due("new: wax", x.wax(1), Checks.STATE);
        Checks.due("new: wax ahead of OUTSIDE", x.wax(0), Checks.STATE);
        Checks.due("new: lean", x.lean(0, 1), Checks.UNKNOWN);
        Checks.due("new: minutes", x.minutes(1), Checks.STATE);
        Checks.due("new: minutes outside", x.minutes(0), Checks.OUTSIDE);
        Checks.due("new: shut", x.shut(0), Checks.UNKNOWN);
        Checks.due("new: look", x.look(0), Checks.UNKNOWN);
        Checks.due("new: afternoon", x.afternoon(0, 0, 0, 0, 0), Checks.STATE);
        Checks.due("new: comes", x.comes(0, 0), Checks.UNKNOWN);
        Checks.due("new: together", x.together(0, 1), Checks.UNKNOWN);
        Checks.due("new: waits", x.waits(0, 0), Checks.UNKNOWN);
        Checks.due("new: scouts", x.scouts(), Checks.STATE);
        Checks.due("new: guides", x.guides(0), Checks.STATE);
        Checks.due("new: guides ahead of OUTSIDE", x.guides(9), Checks.STATE);
        Checks.due("new: reading", x.reading(0, 0, 0), Checks.UNKNOWN);
        Checks.due("new: back 0", x.back(0), 0);
        Checks.due("new: back 1", x.back(1), Checks.OUTSIDE);
        Checks.due("new: leans", x.leans(0), Checks.UNKNOWN);
        Checks.due("new: kinds", x.kinds(0), Checks.UNKNOWN);
        Checks.due("new: creaks", x.creaks(), Checks.STATE);
        Checks.due("new: odds", x.odds(0, 0, 0), Checks.LOST);
        Checks.due("new: tell", x.tell(0), Checks.UNKNOWN);
        Checks.due("new: call", x.call(0), Checks.UNKNOWN);
        Checks.due("new: as", x.as(0, 0), Checks.UNKNOWN);
    }

    private static void theConstants() {
        Checks.due("UNKNOWN", RockingRiders.UNKNOWN, -1);
        Checks.due("OUTSIDE", RockingRiders.OUTSIDE, -2);
        Checks.due("STATE", RockingRiders.STATE, -3);
        Checks.due("FULL", RockingRiders.FULL, -4);
        Checks.due("NONE", RockingRiders.NONE, -9);
        Checks.due("LOST", RockingRiders.LOST, Long.MIN_VALUE);
    }

    private static void textsThatAreTaken() {
        taken("r1,01;c11", 1);
        taken("r9,99;u99", 1);
        taken("r5,10,90;m55", 1);
        taken("r1,01,02,03,04,05;c11", 1);
        taken("r1,01;c11;c11;c11;c11;c11", 5);
        taken(FOUR, 4);
        taken(GREATEST, 5);
    }

    private static void taken(String text, int riders) {
        RockingRiders x = new RockingRiders();
        Checks.due("nursery " + text, Checks.text(x, text), riders);
        Checks.due("fault behind " + text, x.fault(), 0);
        Checks.due("riders of " + text, x.many(1), riders);
        Checks.due("creaks of " + text, x.many(2), text.charAt(1) - '0');
    }

    private static void firstFaults() {
        faulty("", 0);
        faulty("x", 0);
        faulty("R1,01;c11", 0);
        faulty("r", 1);
        faulty("r0,01;c11", 1);
        faulty("rr", 1);
        faulty("r:,01;c11", 1);
        faulty("r1,/1;c11", 3);
        faulty("r1,:1;c11", 3);
        faulty("r1,1/;c11", 4);
        faulty("r1,1:;c11", 4);
        faulty("r1,01;c:1", 7);
        faulty("r1,01;c1:", 8);
        faulty("r1", 2);
        faulty("r1;c11", 2);
        faulty("r12,01;c11", 2);
        faulty("r1,", 3);
        faulty("r1,;", 3);
        faulty("r1,0", 4);
        faulty("r1,00;c11", 4);
        faulty("r1,0;c11", 4);
        faulty("r1,1;c11", 4);
        faulty("r1,1a", 4);
        faulty("r1,10", 5);
        faulty("r1,100;c11", 5);
        faulty("r1,01,", 6);
        faulty("r1,01,00;c11", 7);
        faulty("r1,01,02,03,04,05", 17);
        faulty("r1,01,02,03,04,05,06;c11", 17);
        faulty("r1,01;", 6);
        faulty("r1,01;d11", 6);
        faulty("r1,01;C11", 6);
        faulty("r1,01;c", 7);
        faulty("r1,01;c01", 7);
        faulty("r1,01;c1", 8);
        faulty("r1,01;c10", 8);
        faulty("r1,01;c11,", 9);
        faulty("r1,01;c11x", 9);
        faulty("r1,01;c111", 9);
        faulty("r1,01;c11;", 10);
        faulty("r1,01;c11;u", 11);
        faulty("r1,01;c11;c11;c11;c11;c11;", 25);
        faulty("r1,01;c11;c11;c11;c11;c11;c11", 25);
        faulty("r1,01;c11;c11;c11;c11;c11c", 25);
    }

    private static void faulty(String text, int place) {
        RockingRiders x = new RockingRiders();
        Checks.due("nursery " + text, Checks.text(x, text), -100 - place);
        Checks.due("fault behind " + text, x.fault(), 0);
        Checks.due("no nursery by " + text, x.many(2), 0);
    }

    private static void textsOfEveryLane() {
        for (int lane = 0; lane <= 2; lane++) {
            RockingRiders x = new RockingRiders();
            Checks.row(x, 3, lane, Checks.codes("??" + FOUR + ";"));
            int n = FOUR.length();
            Checks.due("from within", x.nursery(3, lane, 2, n), 4);
            Checks.due("places from i on", x.nursery(3, lane, 1, n), -100);
            Checks.due("one more", x.nursery(3, lane, 2, n + 1), -100 - n - 1);
        }
        RockingRiders x = new RockingRiders();
        Checks.row(x, 0, 2, 114 + 256, 49);
        Checks.due("an int is no code", x.nursery(0, 2, 0, 2), -100);
        Checks.row(x, 0, 0, 114 + 256, 49);
        Checks.due("cut to a byte it is one", x.nursery(0, 0, 0, 2), -102);
        Checks.row(x, 0, 2, 114, Integer.MIN_VALUE + 49);
        Checks.due("far below the digits", x.nursery(0, 2, 0, 2), -101);
    }

    private static void nurseryRefusals() {
        RockingRiders x = new RockingRiders();
        Checks.row(x, 1, 1, Checks.codes("r1,01;c11"));
        int[][] calls = {
            // sheet, lane, i, n, what is due, the fault
            {-1, 0, 0, 0, Checks.UNKNOWN, 0},
            {4, 7, 0, 0, Checks.UNKNOWN, 0},
            {1, -1, 0, 0, Checks.OUTSIDE, 0},
            {1, 3, 0, -1, Checks.OUTSIDE, 0},
            {1, 0, 0, -1, Checks.CAST, 2},
            {1, 2, 99, 9, Checks.CAST, 2},
            {0, 0, -1, -1, Checks.NULL, 1},
            {1, 1, -1, -1, Checks.SIZE, 4},
            {1, 1, 0, Integer.MIN_VALUE, Checks.SIZE, 4},
            {1, 1, -1, 0, Checks.INDEX, 3},
            {1, 1, -1, 9, Checks.INDEX, 3},
            {1, 1, 10, 0, Checks.INDEX, 3},
            {1, 1, 9, 0, -100, 0},
            {1, 1, 9, 1, Checks.INDEX, 3},
            {1, 1, 0, 10, Checks.INDEX, 3},
            {1, 1, 1, 9, Checks.INDEX, 3},
            {1, 1, 1, Integer.MAX_VALUE, Checks.INDEX, 3},
            {1, 1, Integer.MAX_VALUE, Integer.MAX_VALUE, Checks.INDEX, 3},
            {1, 1, Integer.MIN_VALUE, 1, Checks.INDEX, 3},
            {1, 1, 0, 9, 1, 0},
        };
        for (int[] c : calls) {
            String what = "nursery(" + c[0] + ", " + c[1] + ", " + c[2] + ", " + c[3] + ")";
            Checks.due(what, x.nursery(c[0], c[1], c[2], c[3]), c[4]);
            Checks.due("fault of " + what, x.fault(), c[5]);
        }
    }

    private static void aTextMakesAllAnew() {
        RockingRiders x = Checks.with(FOUR);
        x.shut(0);
        x.shut(1);
        x.minutes(2);
        x.reading(0, 1, 1);
        x.wax(9);
        x.lean(0, 1);
        x.tell(0);
        Checks.due("trace ahead", x.trace(), 1);
        Checks.due("anew", x.nursery(0, 0, 0, FOUR.length()), 4);
        Checks.due("creaks anew", x.many(2), 4);
        Checks.due("minute anew", x.many(3), 0);
        Checks.due("shut anew", x.many(4), 0);
        Checks.due("readings anew", x.many(5), 0);
        Checks.due("lean anew", x.ofRider(0, 1), 7);
        for (int k = 0; k < 4; k++) {
            Checks.due("gone anew", x.ofRider(k, 4), 0);
            Checks.due("eyes anew", x.ofRider(k, 7), 0);
            Checks.due("minutes shut anew", x.ofRider(k, 8), 0);
        }
        Checks.due("trace stays", x.trace(), 1);
        Checks.due("sheets stay", x.cell(0, 0, 0), 'r');
        Checks.due("a smaller one", Checks.text(x, "r1,07;m11"), 1);
        Checks.due("its riders", x.many(1), 1);
        Checks.due("its lands", x.many(0), 1);
        Checks.due("no rider more", x.ofRider(1, 0), Checks.UNKNOWN);
        Checks.due("no land more", x.far(1), Checks.UNKNOWN);
    }

    private static void aTextNotTakenChangesNothing() {
        RockingRiders x = Checks.with(FOUR);
        x.shut(3);
        x.minutes(2);
        x.reading(0, 1, 1);
        Checks.due("not taken", Checks.text(x, "r9,01,01;m11;c11;"), -117);
        Checks.due("creaks stay", x.many(2), 4);
        Checks.due("lands stay", x.many(0), 3);
        Checks.due("riders stay", x.many(1), 4);
        Checks.due("minute stays", x.many(3), 2);
        Checks.due("readings stay", x.many(5), 1);
        Checks.due("far stays", x.far(0), 5);
        Checks.due("kind stays", x.ofRider(0, 0), 0);
        Checks.due("gone stays", x.ofRider(3, 4), 18);
        Checks.due("refused", x.nursery(9, 0, 0, 0), Checks.UNKNOWN);
        Checks.due("gone still stays", x.ofRider(3, 4), 18);
    }

    private static void ofRider() {
        RockingRiders x = Checks.with(FOUR);
        int[][] want = {{0, 7, 3, 7}, {1, 2, 9, 3}, {2, 3, 1, 8}, {0, 9, 9, 9}};
        for (int k = 0; k < 4; k++) {
            for (int what = 0; what < 4; what++) {
                Checks.due("ofRider " + k + " " + what, x.ofRider(k, what), want[k][what]);
            }
        }
        x.shut(3);
        x.minutes(4);
        int[] of3 = {0, 9, 9, 9, 36, 9, 0, 1, 4};
        for (int what = 0; what < 9; what++) {
            Checks.due("ofRider 3 " + what, x.ofRider(3, what), of3[what]);
        }
        Checks.due("not in a land", x.ofRider(0, 6), Checks.NONE);
        Checks.due("what below", x.ofRider(0, -1), Checks.OUTSIDE);
        Checks.due("what above", x.ofRider(0, 9), Checks.OUTSIDE);
        Checks.due("rider below", x.ofRider(-1, 0), Checks.UNKNOWN);
        Checks.due("rider above", x.ofRider(4, 9), Checks.UNKNOWN);
        Checks.due("rider far above", x.ofRider(Integer.MAX_VALUE, 0), Checks.UNKNOWN);
        Checks.due("paces of uncles", Checks.with("r1,01;u99").ofRider(0, 3), 20);
        Checks.due("paces of maids", Checks.with("r1,01;m99").ofRider(0, 3), 10);
    }

    private static void inWhichLand() {
        RockingRiders x = Checks.with("r2,06,03,06,09;c39");
        x.shut(0);
        // 3 creaks a minute, 2 to the mile: miles 1, 3, 4, 6, 7, 9
        int[] lands = {Checks.NONE, 1, 1, 0, 0, 3};
        int[] miles = {1, 3, 4, 6, 7, 9};
        for (int m = 0; m < lands.length; m++) {
            x.minutes(1);
            Checks.due("miles behind minute " + m, x.ofRider(0, 5), miles[m]);
            Checks.due("land behind minute " + m, x.ofRider(0, 6), lands[m]);
        }
    }

    private static void far() {
        RockingRiders x = Checks.with(GREATEST);
        int[] fars = {1, 10, 99, 50, 9};
        for (int land = 0; land < 5; land++) {
            Checks.due("far " + land, x.far(land), fars[land]);
        }
        Checks.due("far below", x.far(-1), Checks.UNKNOWN);
        Checks.due("far above", x.far(5), Checks.UNKNOWN);
        Checks.due("far of no land", Checks.with(FOUR).far(3), Checks.UNKNOWN);
    }

    private static void wax() {
        RockingRiders x = Checks.with(FOUR);
        x.shut(3);
        x.minutes(4);
        Checks.due("wax", x.wax(1), 4);
        Checks.due("more miles", x.ofRider(3, 5), 36);
        Checks.due("as far as gone", x.ofRider(3, 4), 36);
        Checks.due("another land", x.ofRider(3, 6), 1);
        Checks.due("wax again", x.wax(9), 1);
        Checks.due("less miles", x.ofRider(3, 5), 4);
        Checks.due("no wax", x.wax(0), Checks.OUTSIDE);
        Checks.due("too much wax", x.wax(10), Checks.OUTSIDE);
        Checks.due("as it was", x.many(2), 9);
    }

    private static void lean() {
        RockingRiders x = Checks.with(FOUR);
        x.shut(2);
        x.shut(1);
        x.minutes(1);
        Checks.due("lean", x.lean(2, 9), 3);
        Checks.due("pace by it", x.ofRider(2, 3), 20);
        Checks.due("gone as it was", x.ofRider(2, 4), 8);
        Checks.due("lean of a maid", x.lean(1, 1), 2);
        x.minutes(1);
        Checks.due("gone by the new pace", x.ofRider(1, 4), 5);
        Checks.due("lean 0", x.lean(0, 0), Checks.OUTSIDE);
        Checks.due("lean 10", x.lean(0, 10), Checks.OUTSIDE);
        Checks.due("lean as it was", x.lean(0, 7), 7);
        Checks.due("lean of nobody", x.lean(4, 0), Checks.UNKNOWN);
        Checks.due("lean of nobody below", x.lean(-1, 1), Checks.UNKNOWN);
    }
}
