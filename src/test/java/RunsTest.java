import java.util.Random;

/** Long runs of calls, by fixed seeds, each answer compared with the reference's. */
public final class RunsTest {
    private static final int RUNS = 3000;
    private static final int CALLS = 512;
    private static final int[] EXTREMES = {Integer.MIN_VALUE, Integer.MAX_VALUE, Integer.MIN_VALUE + 1, 1 << 30, -100};

    private final Random random;
    private final RockingRiders x = new RockingRiders();
    private final Reference y = new Reference();
    private final int run;
    private int calls = 0;

    private RunsTest(int number) {
        run = number;
        random = new Random(7919L * number + 1);
    }

    public static void main(String[] args) {
        for (int number = 0; number < RUNS; number++) {
            new RunsTest(number).goes();
        }
        Checks.end();
    }

    private void goes() {
        while (calls < CALLS) {
            int chance = random.nextInt(40);
            if (chance == 0) {
                bringsText();
            } else if (chance == 1) {
                bringsAfternoon();
            } else {
                anyCall();
            }
        }
    }

    /** Mostly a number that can be meant, now and then one beside, seldom one far off. */
    private int number(int least, int most) {
        int chance = random.nextInt(60);
        if (chance == 0) {
            return EXTREMES[random.nextInt(EXTREMES.length)];
        }
        if (chance <= 2) {
            return least - 1;
        }
        if (chance <= 4) {
            return most + 1;
        }
        return least + random.nextInt(most - least + 1);
    }

    private int digit(int least) {
        return least + random.nextInt(10 - least);
    }

    private String text() {
        StringBuilder b = new StringBuilder("r").append(random.nextInt(3) > 0 ? 1 + random.nextInt(3) : digit(1));
        int lands = 1 + random.nextInt(5);
        int high = random.nextInt(3) == 0 ? 99 : 30;
        for (int land = 0; land < lands; land++) {
            int far = 1 + random.nextInt(high);
            b.append(',').append(far / 10).append(far % 10);
        }
        int riders = 1 + random.nextInt(5);
        for (int k = 0; k < riders; k++) {
            b.append(';').append("cmu".charAt(random.nextInt(3))).append(digit(1)).append(digit(1));
        }
        return b.toString();
    }

    private String spoilt(String text) {
        String signs = "r,;cmu0123456789x";
        StringBuilder b = new StringBuilder(text);
        int place = random.nextInt(text.length());
        char sign = signs.charAt(random.nextInt(signs.length()));
        switch (random.nextInt(4)) {
            case 0 -> b.setCharAt(place, sign);
            case 1 -> b.insert(place, sign);
            case 2 -> b.deleteCharAt(place);
            default -> b.setLength(place);
        }
        return b.toString();
    }

    private void bringsText() {
        String text = random.nextInt(4) == 0 ? spoilt(text()) : text();
        int k = random.nextInt(4);
        int lane = random.nextInt(3);
        int ahead = random.nextInt(4);
        rowOf(k, lane, ahead, text.chars().toArray());
        due("nursery " + text, x.nursery(k, lane, ahead, text.length()), y.nursery(k, lane, ahead, text.length()));
    }

    private void bringsAfternoon() {
        int k = random.nextInt(4);
        int lane = random.nextInt(3);
        int n = random.nextInt(12);
        int[] cells = new int[2 * n];
        for (int pair = 0; pair < n; pair++) {
            int second = random.nextInt(60) == 0 ? number(0, 2) : random.nextInt(3);
            int rider = random.nextInt(40) == 0 ? number(0, 5) : random.nextInt(3);
            cells[2 * pair] = second == 2 ? random.nextInt(7) : rider;
            cells[2 * pair + 1] = second;
        }
        rowOf(k, lane, 0, cells);
        for (int what = -1; what <= 15; what++) {
            int m = random.nextInt(n + 1);
            due("afternoon", x.afternoon(k, lane, 0, m, what), y.afternoon(k, lane, 0, m, what));
        }
    }

    private void rowOf(int k, int lane, int ahead, int[] cells) {
        int n = ahead + cells.length;
        due("sheet", x.sheet(k, lane, n), y.sheet(k, lane, n));
        for (int i = 0; i < cells.length; i++) {
            due("put", x.put(k, ahead + i, cells[i]), y.put(k, ahead + i, cells[i]));
        }
    }

    private void due(String what, long got, long want) {
        calls++;
        Checks.due("run " + run + ", call " + calls + ": " + what, got, want);
        Checks.due("run " + run + ", fault behind call " + calls + ": " + what, x.fault(), y.fault());
    }

    private void anyCall() {
        int which = random.nextInt(31);
        if (which < 8) {
            ofNurseryOrMinutes(which);
        } else if (which < 19) {
            ofWhitherOrReadings(which);
        } else {
            ofSheetsOrParts(which);
        }
    }

    private void ofNurseryOrMinutes(int which) {
        int k = number(0, 4);
        int v = number(1, 9);
        int what = number(0, 8);
        int n = random.nextInt(3) == 0 ? number(1, 99) : 1 + random.nextInt(4);
        String told = " " + k + " " + v + " " + what + " " + n;
        switch (which) {
            case 0 -> due("ofRider" + told, x.ofRider(k, what), y.ofRider(k, what));
            case 1 -> due("far" + told, x.far(k), y.far(k));
            case 2 -> due("wax" + told, x.wax(v), y.wax(v));
            case 3 -> due("lean" + told, x.lean(k, v), y.lean(k, v));
            case 4 -> due("minutes" + told, x.minutes(n), y.minutes(n));
            case 5 -> due("look" + told, x.look(k), y.look(k));
            case 6 -> due("shut" + told, x.shut(k), y.shut(k));
            default -> due("shut" + told, x.shut(k), y.shut(k));
        }
    }

    private void ofWhitherOrReadings(int which) {
        int k = number(0, 4);
        int land = number(0, 4);
        int of = number(-2, 4);
        int m = number(0, 20);
        int v = random.nextInt(4) == 0 ? number(0, 400) : likelyMiles(k, m);
        int back = number(0, 2);
        String told = " " + k + " " + land + " " + of + " " + m + " " + v + " " + back;
        switch (which) {
            case 8 -> due("comes" + told, x.comes(k, land), y.comes(k, land));
            case 9 -> due("together" + told, x.together(k, land), y.together(k, land));
            case 10 -> due("waits" + told, x.waits(land, k), y.waits(land, k));
            case 11 -> due("scouts" + told, x.scouts(), y.scouts());
            case 12 -> due("guides" + told, x.guides(of), y.guides(of));
            case 13 -> due("reading" + told, x.reading(k, m, v), y.reading(k, m, v));
            case 14 -> due("back" + told, x.back(back), y.back(back));
            case 15 -> due("leans" + told, x.leans(k), y.leans(k));
            case 16 -> due("kinds" + told, x.kinds(k), y.kinds(k));
            case 17 -> due("creaks" + told, x.creaks(), y.creaks());
            default -> {
                due("odds, upper" + told, x.odds(k, land, 0), y.odds(k, land, 0));
                due("odds, lower" + told, x.odds(k, land, back), y.odds(k, land, back));
            }
        }
    }

    /** What a reading may well be, so that the sets are not all empty. */
    private int likelyMiles(int k, int m) {
        int pace = y.ofRider(k, 3);
        return pace < 0 ? 0 : Math.max(0, pace * m / Math.max(1, y.many(2)));
    }

    private void ofSheetsOrParts(int which) {
        int k = number(0, 3);
        int other = random.nextBoolean() ? k : number(0, 3);
        int lane = number(0, 2);
        int i = random.nextBoolean() ? number(0, 60) : number(0, 5);
        int j = number(0, 8);
        int n = random.nextBoolean() ? number(0, 60) : number(0, 8);
        int v = random.nextBoolean() ? number(0, 127) : random.nextInt();
        int rider = number(0, 4);
        String told = " " + k + " " + other + " " + lane + " " + i + " " + j + " " + n + " " + v;
        switch (which) {
            case 19 -> due("sheet" + told, x.sheet(k, lane, n), y.sheet(k, lane, n));
            case 20 -> due("lose" + told, x.lose(k), y.lose(k));
            case 21, 22 -> due("put" + told, x.put(k, i, v), y.put(k, i, v));
            case 23 -> due("cell" + told, x.cell(k, i, lane), y.cell(k, i, lane));
            case 24 -> due("copy" + told, x.copy(k, i, other, j, n), y.copy(k, i, other, j, n));
            case 25 -> due("tell" + told, x.tell(rider), y.tell(rider));
            case 26 -> due("call" + told, x.call(rider), y.call(rider));
            case 27 -> due("as" + told, x.as(rider, lane), y.as(rider, lane));
            case 28 -> due("trace" + told, x.trace(), y.trace());
            case 29 -> due("many" + told, x.many(j - 1), y.many(j - 1));
            default -> due("nursery" + told, x.nursery(k, lane, i, n), y.nursery(k, lane, i, n));
        }
    }
}
