/** Promises 11 to 15. */
public final class WhitherTest {
    private static final String FOUR = "r4,05,12,05;c73;m29;u31;c99";

    public static void main(String[] args) {
        comes();
        together();
        togetherRefusals();
        waits();
        scouts();
        guides();
        guidesOfSeveral();
        Checks.end();
    }

    private static void comes() {
        RockingRiders x = Checks.with(FOUR);
        int[][] want = {{3, -9, 3}, {7, -9, 7}, {-9, -9, -9}, {3, 6, 3}};
        for (int k = 0; k < 4; k++) {
            for (int land = 0; land < 3; land++) {
                Checks.due("comes " + k + " " + land, x.comes(k, land), want[k][land]);
            }
        }
        x.shut(3);
        x.minutes(2);
        Checks.due("from the nursery on", x.comes(3, 0), 3);
        x.wax(9);
        Checks.due("by more creaks", x.comes(3, 0), 5);
        x.wax(1);
        Checks.due("by fewer creaks", x.comes(2, 0), 1);
        x.lean(2, 1);
        Checks.due("by less lean", x.comes(2, 0), Checks.NONE);
        Checks.due("no rider", x.comes(4, 0), Checks.UNKNOWN);
        Checks.due("no rider below", x.comes(-1, 9), Checks.UNKNOWN);
        Checks.due("no land", x.comes(0, 3), Checks.UNKNOWN);
        Checks.due("no land below", x.comes(0, -1), Checks.UNKNOWN);
        RockingRiders y = Checks.with("r1,09,10;c19");
        Checks.due("in the last minute", y.comes(0, 0), 9);
        Checks.due("not a minute more", y.comes(0, 1), Checks.NONE);
    }

    private static void together() {
        RockingRiders x = Checks.with(FOUR);
        Checks.due("nobody goes", x.together(0, 3), Checks.NONE);
        x.shut(0);
        x.shut(1);
        x.shut(3);
        Checks.due("both in land 0", x.together(0, 3), 3);
        Checks.due("the other way", x.together(3, 0), 3);
        Checks.due("never in one", x.together(1, 3), Checks.NONE);
        Checks.due("nothing is done", x.many(3), 0);
        Checks.due("nobody has gone", x.ofRider(3, 4), 0);
        x.minutes(3);
        Checks.due("now", x.together(0, 3), 0);
        x.minutes(1);
        Checks.due("no more", x.together(0, 3), Checks.NONE);
        RockingRiders y = Checks.with("r1,01,03,09;c19;c19;u59");
        y.shut(0);
        y.minutes(2);
        y.shut(1);
        Checks.due("the one behind comes up", y.together(0, 1), 3);
        Checks.due("both nowhere is not together", y.together(1, 2), Checks.NONE);
        RockingRiders z = Checks.with("r9,99,01;c19;m19");
        z.shut(0);
        z.shut(1);
        Checks.due("in the last minute", z.together(0, 1), 9);
    }

    private static void togetherRefusals() {
        RockingRiders x = Checks.with(FOUR);
        Checks.due("both the same", x.together(1, 1), Checks.UNKNOWN);
        Checks.due("no first", x.together(-1, 1), Checks.UNKNOWN);
        Checks.due("no second", x.together(1, 4), Checks.UNKNOWN);
        Checks.due("far off", x.together(Integer.MIN_VALUE, Integer.MAX_VALUE), Checks.UNKNOWN);
    }

    private static void waits() {
        RockingRiders x = Checks.with("r2,06,09;c39;m49;u29");
        // to 06: 12 creaks, by 3, 5 and 6 a minute; to 09: 18
        int[][] want = {{0, 1, 2}, {0, 2, 3}};
        for (int land = 0; land < 2; land++) {
            for (int k = 0; k < 3; k++) {
                Checks.due("waits " + land + " " + k, x.waits(land, k), want[land][k]);
            }
        }
        x.lean(0, 1);
        Checks.due("somebody never comes", x.waits(0, 1), Checks.NONE);
        Checks.due("of himself", x.waits(0, 0), Checks.NONE);
        Checks.due("no land", x.waits(2, 0), Checks.UNKNOWN);
        Checks.due("no land below", x.waits(-1, 9), Checks.UNKNOWN);
        Checks.due("no rider", x.waits(0, 3), Checks.UNKNOWN);
        Checks.due("no rider below", x.waits(0, -1), Checks.UNKNOWN);
        Checks.due("one alone", Checks.with("r1,05;c19").waits(0, 0), 0);
    }

    private static void scouts() {
        Checks.due("one sees all", Checks.with(FOUR).scouts(), Checks.set(3));
        Checks.due("the least of several", Checks.with("r1,05;c11;c59;c99").scouts(), Checks.set(1));
        Checks.due("nobody comes anywhere", Checks.with("r9,99;c11;c11").scouts(), 0);
        Checks.due("the first of all", Checks.with("r1,01,02,03;c19;c39;c12").scouts(), Checks.set(0));
        Checks.due("the last of three", Checks.with("r1,09,19,40;c19;c22;u55").scouts(), Checks.set(2));
        Checks.due("but a far one", Checks.with("r1,09,19,90;c19;c22;u55").scouts(), Checks.set(2));
        RockingRiders x = Checks.with("r1,90;c11;u55;u99");
        Checks.due("only one comes", x.scouts(), Checks.set(2));
        x.lean(1, 9);
        Checks.due("two come", x.scouts(), Checks.set(1));
        x.wax(9);
        Checks.due("nobody comes", x.scouts(), 0);
    }

    private static void guides() {
        RockingRiders x = Checks.with(FOUR);
        Checks.due("lands", x.guides(-2), 3);
        Checks.due("minutes", x.guides(-1), 16);
        int[] row = {0, 2, Checks.NONE, 1, Checks.NONE};
        for (int k = 0; k < 5; k++) {
            Checks.due("the land of " + k, x.guides(k), row[k]);
        }
        Checks.due("k -3", x.guides(-3), Checks.OUTSIDE);
        Checks.due("k 5", x.guides(5), Checks.OUTSIDE);
        RockingRiders y = Checks.with("r9,99;c11");
        Checks.due("no lands", y.guides(-2), 0);
        Checks.due("no minutes", y.guides(-1), 0);
        Checks.due("no land of him", y.guides(0), Checks.NONE);
    }

    private static void guidesOfSeveral() {
        row("r1,05,05;c59;c59;c59", 2, 2, 0, 1, -9, -9, -9);
        row("r1,09;c39;c99;c19", 1, 1, -9, 0, -9, -9, -9);
        row("r1,02,04;c29;c49", 2, 2, 0, 1, -9, -9, -9);
        row("r1,04,02;c29;c49", 2, 2, 1, 0, -9, -9, -9);
        // most lands ahead of least minutes: 1 comes to the first land alone
        row("r1,05,09;c99;c15", 2, 6, 1, 0, -9, -9, -9);
        row("r1,01,02,03,04,05;c91;c91;c91;c91;c91", 5, 5, 0, 1, 2, 3, 4);
        row("r1,05,04,03,02,01;c91;c91;c91;c91;c91", 5, 5, 0, 1, 2, 3, 4);
        row("r1,01;c91;c91;c91;c91;c91", 1, 1, 0, -9, -9, -9, -9);
        // alike in minutes, by 1 + 4 or 2 + 3: the first as a row
        row("r1,20,30;c11;c12;u93;c99;c13", 2, 5, -9, -9, 0, 1, -9);
        // some must be given none: 9 is behind all lands
        row("r1,01,01;c11;c11;c11", 2, 2, 0, 1, -9, -9, -9);
    }

    private static void row(String text, int lands, int minutes, int... row) {
        RockingRiders x = Checks.with(text);
        Checks.due("lands of " + text, x.guides(-2), lands);
        Checks.due("minutes of " + text, x.guides(-1), minutes);
        for (int k = 0; k < 5; k++) {
            Checks.due("land of " + k + " by " + text, x.guides(k), row[k]);
        }
    }
}
