/** Promises 16 to 21. */
public final class ReadingsTest {
    private static final String THREE = "r4,05,12;c73;m29;u31";
    private static final int ALL = 1022;

    public static void main(String[] args) {
        reading();
        back();
        leansAndKinds();
        creaks();
        byWhatIsNow();
        odds();
        oddsRefusals();
        Checks.end();
    }

    private static void reading() {
        RockingRiders x = Checks.with(THREE);
        for (int i = 0; i < 8; i++) {
            Checks.due("reading " + i, x.reading(i % 3, 20, 400), i);
            Checks.due("how many", x.many(5), i + 1);
        }
        Checks.due("a ninth", x.reading(0, 0, 0), Checks.FULL);
        Checks.due("UNKNOWN ahead of FULL", x.reading(3, 0, 0), Checks.UNKNOWN);
        Checks.due("OUTSIDE ahead of FULL", x.reading(0, 21, 0), Checks.OUTSIDE);
        Checks.due("still eight", x.many(5), 8);
        RockingRiders y = Checks.with(THREE);
        Checks.due("no rider", y.reading(-1, 99, 0), Checks.UNKNOWN);
        Checks.due("minutes below", y.reading(0, -1, 0), Checks.OUTSIDE);
        Checks.due("minutes above", y.reading(0, 21, 0), Checks.OUTSIDE);
        Checks.due("miles below", y.reading(0, 0, -1), Checks.OUTSIDE);
        Checks.due("miles above", y.reading(0, 0, 401), Checks.OUTSIDE);
        Checks.due("none yet", y.many(5), 0);
    }

    private static void back() {
        RockingRiders x = Checks.with(THREE);
        Checks.due("back 0 of none", x.back(0), 0);
        Checks.due("back 1 of none", x.back(1), Checks.OUTSIDE);
        x.reading(0, 4, 7);
        x.reading(1, 4, 3);
        x.reading(2, 1, 9);
        Checks.due("none is so", x.creaks(), 0);
        Checks.due("back below", x.back(-1), Checks.OUTSIDE);
        Checks.due("back above", x.back(4), Checks.OUTSIDE);
        Checks.due("back 0", x.back(0), 3);
        Checks.due("back 1", x.back(1), 2);
        Checks.due("the last one was taken", x.creaks(), Checks.set(4));
        Checks.due("the next one's number", x.reading(2, 1, 2), 2);
        Checks.due("back all", x.back(3), 0);
        Checks.due("all are so", x.creaks(), ALL);
    }

    private static void leansAndKinds() {
        RockingRiders x = Checks.with(THREE);
        Checks.due("leans without readings", x.leans(0), ALL);
        Checks.due("kinds without readings", x.kinds(0), 7);
        x.reading(0, 20, 35);
        // 20 minutes by 4 creaks: 5 miles a lean; a maid's is 40, an uncle's 80
        Checks.due("leans of a child", x.leans(0), Checks.set(7));
        Checks.due("kinds of a child", x.kinds(0), Checks.set(0));
        x.reading(1, 20, 15);
        Checks.due("leans of a maid", x.leans(1), Checks.set(2));
        Checks.due("kinds of a maid", x.kinds(1), Checks.set(1));
        x.reading(2, 20, 40);
        Checks.due("leans of an uncle", x.leans(2), Checks.set(3));
        Checks.due("kinds of an uncle", x.kinds(2), Checks.set(2));
        Checks.due("leans still", x.leans(0), Checks.set(7));
        x.reading(2, 20, 41);
        Checks.due("one of another is not so", x.leans(0), 0);
        Checks.due("nor by any kind", x.kinds(1), 0);
        x.back(4);
        x.reading(0, 1, 1);
        Checks.due("cut: 4 .. 7 creaks are a mile", x.leans(0), Checks.set(4, 5, 6, 7));
        Checks.due("cut: 7 is, 8 and 16 are not", x.kinds(0), Checks.set(0));
        x.reading(0, 3, 3);
        Checks.due("and 12 .. 15 in 3", x.leans(0), Checks.set(4, 5));
        Checks.due("not what he is", x.kinds(0), 0);
        x.back(2);
        x.reading(0, 0, 0);
        Checks.due("in no minute no mile", x.leans(0), ALL);
        Checks.due("by no kind", x.kinds(0), 7);
        Checks.due("leans of nobody", x.leans(3), Checks.UNKNOWN);
        Checks.due("leans of nobody below", x.leans(-1), Checks.UNKNOWN);
        Checks.due("kinds of nobody", x.kinds(3), Checks.UNKNOWN);
        Checks.due("kinds of nobody below", x.kinds(-1), Checks.UNKNOWN);
    }

    private static void creaks() {
        RockingRiders x = Checks.with(THREE);
        Checks.due("creaks without readings", x.creaks(), ALL);
        x.reading(0, 2, 2);
        Checks.due("14 creaks are 2 miles", x.creaks(), Checks.set(5, 6, 7));
        x.reading(2, 1, 1);
        Checks.due("and 8 are 1", x.creaks(), Checks.set(5, 6, 7));
        x.reading(1, 5, 3);
        Checks.due("and 15 are 3", x.creaks(), Checks.set(5));
        Checks.due("but they are 4", x.leans(0), 0);
        x.wax(5);
        Checks.due("now 5", x.leans(0), Checks.set(5, 6, 7));
        x.reading(1, 0, 1);
        Checks.due("never", x.creaks(), 0);
    }

    private static void byWhatIsNow() {
        RockingRiders x = Checks.with(THREE);
        x.reading(1, 8, 6);
        Checks.due("as he leans", x.creaks(), Checks.set(4));
        x.lean(1, 5);
        Checks.due("leant otherwise, 48 creaks are 6 miles", x.creaks(), Checks.set(7, 8));
        Checks.due("others' leans by it", x.leans(0), 0);
        Checks.due("his own", x.leans(1), Checks.set(2));
        x.wax(7);
        Checks.due("by the new creaks", x.leans(1), Checks.set(5));
        Checks.due("others' leans", x.leans(0), ALL);
        x.shut(1);
        x.minutes(3);
        Checks.due("whatever goes by", x.leans(1), Checks.set(5));
        RockingRiders y = Checks.with("r1,01;u91");
        Checks.due("longer than he lasts", y.reading(0, 20, 400), 0);
        Checks.due("as if he lasted for ever", y.leans(0), Checks.set(9));
        Checks.due("his kind", y.kinds(0), Checks.set(2));
    }

    private static void odds() {
        RockingRiders x = Checks.with("r1,02,05,02,09;c19;c26;m11");
        long[][] upper = {{1, 4, 0, 1}, {1, 1, 0, 1}, {1, 0, 0, 0}};
        long[][] lower = {{3, 9, 1, 9}, {3, 3, 1, 3}, {1, 1, 1, 1}};
        for (int k = 0; k < 3; k++) {
            for (int land = 0; land < 4; land++) {
                Checks.due("upper " + k + " " + land, x.odds(k, land, 0), upper[k][land]);
                Checks.due("lower " + k + " " + land, x.odds(k, land, 1), lower[k][land]);
            }
        }
        x.shut(0);
        x.minutes(5);
        Checks.due("from the nursery on", x.odds(0, 0, 1), 3);
        x.wax(2);
        Checks.due("by creaks", x.odds(0, 0, 0), 2);
        Checks.due("of 3", x.odds(0, 0, 1), 3);
        x.lean(0, 9);
        Checks.due("by lean", x.odds(0, 0, 0), 1);
        Checks.due("of 9", x.odds(0, 0, 1), 9);
    }

    private static void oddsRefusals() {
        RockingRiders x = Checks.with(THREE);
        Checks.due("no rider", x.odds(3, 0, 0), Checks.LOST);
        Checks.due("no rider below", x.odds(-1, 0, 0), Checks.LOST);
        Checks.due("no land", x.odds(0, 2, 0), Checks.LOST);
        Checks.due("no land below", x.odds(0, -1, 0), Checks.LOST);
        Checks.due("which below", x.odds(0, 0, -1), Checks.LOST);
        Checks.due("which above", x.odds(0, 0, 2), Checks.LOST);
        Checks.due("but this", x.odds(0, 0, 1), 3);
    }
}
