/** Rocking horses that get there by not going; what is due of each call stands in DOC.md. */
public final class RockingRiders {
    public static final int UNKNOWN = -1, OUTSIDE = -2, STATE = -3, FULL = -4, NONE = -9;
    public static final long LOST = Long.MIN_VALUE;

    private static final int NULL = 1, CAST = 2, INDEX = 3, SIZE = 4;
    private static final int CHILD = 0, MAID = 1, UNCLE = 2;
    private static final int BYTES = 0, SHORTS = 1, INTS = 2;
    private static final int MOST_LANDS = 5, MOST_RIDERS = 5, MOST_SHEETS = 4, MOST_CELLS = 60;
    private static final int MOST_READINGS = 8, MOST_PAIRS = 20, LONGEST_TOLD = 20, MOST_MINUTES = 99;

    private final Nursery now;
    /** What is not yet taken, or only looked at ahead, goes here, so that nothing of the real one changes. */
    private final Nursery spare;
    private final Tale tale;
    private final Readings readings;
    private final Guiding guiding;
    private final Sheet[] sheets;
    private int traceLeft;
    private int latestFault;

    public RockingRiders() {
        now = new Nursery();
        spare = new Nursery();
        tale = new Tale();
        readings = new Readings();
        guiding = new Guiding();
        sheets = new Sheet[MOST_SHEETS];
        for (int k = 0; k < sheets.length; k++) {
            sheets[k] = new Sheet();
        }
    }

    // ---- 1 the nursery

    public int nursery(int sheet, int lane, int i, int n) {
        latestFault = 0;
        Sheet s = sheetAt(sheet);
        if (s == null) {
            return UNKNOWN;
        }
        if (!isLane(lane)) {
            return OUTSIDE;
        }
        int wrong = rowFault(s, lane);
        if (wrong == 0 && n < 0) {
            wrong = SIZE;
        }
        if (wrong == 0 && !s.hasRun(i, n)) {
            wrong = INDEX;
        }
        if (wrong != 0) {
            return faulted(wrong);
        }
        Text text = new Text(s, i, n);
        if (!text.fills(spare)) {
            return -100 - text.place;
        }
        now.becomesLike(spare);
        readings.count = 0;
        return now.riderCount;
    }

    public int ofRider(int k, int what) {
        Rider r = now.riderAt(k);
        if (r == null) {
            return UNKNOWN;
        }
        switch (what) {
            case 0:
                return r.kind;
            case 1:
                return r.leaning;
            case 2:
                return r.lasting;
            case 3:
                return paceOf(r.kind, r.leaning);
            case 4:
                return r.gone;
            case 5:
                return now.milesOf(r);
            case 6:
                return now.landOf(r);
            case 7:
                return r.eyesShut ? 1 : 0;
            case 8:
                return r.shutFor;
            default:
                return OUTSIDE;
        }
    }

    public int far(int land) {
        return now.isLand(land) ? now.farOf(land) : UNKNOWN;
    }

    public int wax(int v) {
        if (!now.isThere()) {
            return STATE;
        }
        if (!isOneToNine(v)) {
            return OUTSIDE;
        }
        int before = now.creaksToMile;
        now.creaksToMile = v;
        return before;
    }

    public int lean(int k, int v) {
        Rider r = now.riderAt(k);
        if (r == null) {
            return UNKNOWN;
        }
        if (!isOneToNine(v)) {
            return OUTSIDE;
        }
        int before = r.leaning;
        r.leaning = v;
        return before;
    }

    // ---- 2 minutes

    public int minutes(int n) {
        if (n < 1 || n > MOST_MINUTES) {
            return OUTSIDE;
        }
        if (!now.isThere()) {
            return STATE;
        }
        int looks = 0;
        for (int m = 0; m < n; m++) {
            looks += now.passMinute();
        }
        return looks;
    }

    public int shut(int k) {
        Rider r = now.riderAt(k);
        if (r == null) {
            return UNKNOWN;
        }
        if (r.eyesShut) {
            return STATE;
        }
        r.shutsEyes();
        return Integer.bitCount(now.whoseEyesAreShut());
    }

    public int look(int k) {
        Rider r = now.riderAt(k);
        if (r == null) {
            return UNKNOWN;
        }
        if (!r.eyesShut) {
            return STATE;
        }
        int was = now.landOf(r);
        r.looksUp();
        return was;
    }

    public int afternoon(int sheet, int lane, int i, int n, int what) {
        latestFault = 0;
        Sheet s = sheetAt(sheet);
        if (s == null) {
            return UNKNOWN;
        }
        if (!isLane(lane) || n < 0 || n > MOST_PAIRS || !isAskedOfAfternoon(what)) {
            return OUTSIDE;
        }
        if (!now.isThere()) {
            return STATE;
        }
        int wrong = rowFault(s, lane);
        if (wrong == 0 && !s.hasRun(i, 2 * n)) {
            wrong = INDEX;
        }
        if (wrong != 0) {
            return faulted(wrong);
        }
        int refusal = refusalOfPairs(s, i, n);
        if (refusal != 0) {
            return refusal;
        }
        return answerOfTale(tale.tells(now, s, i, n), what);
    }

    private static boolean isAskedOfAfternoon(int what) {
        return what >= 0 && what <= 4 || what >= 10 && what <= 14;
    }

    /** The first refusal of n pairs, 0 if there is none: all are looked at ahead of any act. */
    private int refusalOfPairs(Sheet s, int i, int n) {
        for (int pair = 0; pair < n; pair++) {
            int refusal = refusalOfPair(s.at(i + 2 * pair), s.at(i + 2 * pair + 1));
            if (refusal != 0) {
                return refusal;
            }
        }
        return 0;
    }

    private int refusalOfPair(int first, int second) {
        if (second < Tale.SHUTS || second > Tale.PASSES) {
            return OUTSIDE;
        }
        if (second == Tale.PASSES) {
            return first < 0 || first > LONGEST_TOLD ? OUTSIDE : 0;
        }
        return now.riderAt(first) == null ? UNKNOWN : 0;
    }

    private int answerOfTale(int firstWrong, int what) {
        if (what == 1) {
            return firstWrong;
        }
        if (firstWrong != NONE) {
            return -100 - firstWrong;
        }
        switch (what) {
            case 0:
                return tale.nursery.howManyAreInLands();
            case 2:
                return tale.nursery.whoseEyesAreShut();
            case 3:
                return tale.landsSeen;
            case 4:
                return tale.looks;
            default:
                return milesTold(what - 10);
        }
    }

    private int milesTold(int k) {
        Rider r = tale.nursery.riderAt(k);
        return r == null ? NONE : tale.nursery.milesOf(r);
    }

    // ---- 3 who comes whither

    public int comes(int k, int land) {
        Rider r = now.riderAt(k);
        if (r == null || !now.isLand(land)) {
            return UNKNOWN;
        }
        return now.comingOf(r, land);
    }

    public int together(int a, int b) {
        if (now.riderAt(a) == null || now.riderAt(b) == null || a == b) {
            return UNKNOWN;
        }
        spare.becomesLike(now);
        for (int m = 0; m <= MOST_MINUTES; m++) {
            if (spare.areInOneLand(a, b)) {
                return m;
            }
            spare.passMinute();
        }
        return NONE;
    }

    public int waits(int land, int k) {
        Rider r = now.riderAt(k);
        if (!now.isLand(land) || r == null) {
            return UNKNOWN;
        }
        int latest = now.latestComing(land);
        return latest == NONE ? NONE : latest - now.comingOf(r, land);
    }

    public int scouts() {
        if (!now.isThere()) {
            return STATE;
        }
        int all = (1 << now.riderCount) - 1;
        int wanted = now.landsComeToBy(all);
        int fewest = all;
        for (int set = 0; set < all; set++) {
            if (Integer.bitCount(set) < Integer.bitCount(fewest) && now.landsComeToBy(set) == wanted) {
                fewest = set;
            }
        }
        return fewest;
    }

    public int guides(int k) {
        if (!now.isThere()) {
            return STATE;
        }
        if (k < -2 || k >= MOST_RIDERS) {
            return OUTSIDE;
        }
        guiding.finds(now);
        if (k == -2) {
            return guiding.landsGiven;
        }
        return k == -1 ? guiding.minutesTaken : guiding.landGivenTo(k);
    }

    // ---- 4 how far one got

    public int reading(int k, int minutes, int v) {
        if (now.riderAt(k) == null) {
            return UNKNOWN;
        }
        if (minutes < 0 || minutes > 20 || v < 0 || v > 400) {
            return OUTSIDE;
        }
        if (readings.count >= MOST_READINGS) {
            return FULL;
        }
        readings.adds(k, minutes, v);
        return readings.count - 1;
    }

    public int back(int k) {
        if (k < 0 || k > readings.count) {
            return OUTSIDE;
        }
        readings.count -= k;
        return readings.count;
    }

    public int leans(int k) {
        Rider r = now.riderAt(k);
        if (r == null) {
            return UNKNOWN;
        }
        int set = 0;
        for (int v = 1; v <= 9; v++) {
            if (readings.areSo(now, k, r.kind, v, now.creaksToMile)) {
                set |= 1 << v;
            }
        }
        return set;
    }

    public int kinds(int k) {
        Rider r = now.riderAt(k);
        if (r == null) {
            return UNKNOWN;
        }
        int set = 0;
        for (int kind = CHILD; kind <= UNCLE; kind++) {
            if (readings.areSo(now, k, kind, r.leaning, now.creaksToMile)) {
                set |= 1 << kind;
            }
        }
        return set;
    }

    public int creaks() {
        if (!now.isThere()) {
            return STATE;
        }
        int set = 0;
        for (int v = 1; v <= 9; v++) {
            if (readings.areSo(now, NONE, CHILD, 0, v)) {
                set |= 1 << v;
            }
        }
        return set;
    }

    public long odds(int k, int land, int which) {
        Rider r = now.riderAt(k);
        if (r == null || !now.isLand(land) || which < 0 || which > 1) {
            return LOST;
        }
        int upper = now.minutesIn(r, land);
        int lower = r.lasting;
        return quotient(which == 0 ? upper : lower, greatestDivisor(upper, lower));
    }

    /** Counted down from the lower number, which is a divisor of both where the upper one is 0. */
    private static int greatestDivisor(int upper, int lower) {
        for (int d = lower; d > 1; d--) {
            if (upper % d == 0 && lower % d == 0) {
                return d;
            }
        }
        return 1;
    }

    // ---- 5 sheets, parts

    public int sheet(int k, int lane, int n) {
        latestFault = 0;
        Sheet s = sheetAt(k);
        if (s == null) {
            return UNKNOWN;
        }
        if (!isLane(lane) || n > MOST_CELLS) {
            return OUTSIDE;
        }
        if (n < 0) {
            return faulted(SIZE);
        }
        s.becomesRow(lane, n);
        return 1;
    }

    public int lose(int k) {
        Sheet s = sheetAt(k);
        if (s == null) {
            return UNKNOWN;
        }
        if (s.hasNothing()) {
            return 0;
        }
        s.becomesNothing();
        return 1;
    }

    public int put(int k, int i, int v) {
        latestFault = 0;
        Sheet s = sheetAt(k);
        if (s == null) {
            return UNKNOWN;
        }
        if (s.hasNothing()) {
            return faulted(NULL);
        }
        if (!s.hasCell(i)) {
            return faulted(INDEX);
        }
        s.setCell(i, v);
        return 1;
    }

    public long cell(int k, int i, int lane) {
        latestFault = 0;
        Sheet s = sheetAt(k);
        if (s == null || !isLane(lane)) {
            return LOST;
        }
        latestFault = rowFault(s, lane);
        if (latestFault == 0 && !s.hasCell(i)) {
            latestFault = INDEX;
        }
        return latestFault == 0 ? s.at(i) : LOST;
    }

    public int copy(int k, int i, int other, int j, int n) {
        latestFault = 0;
        Sheet from = sheetAt(k);
        Sheet to = sheetAt(other);
        if (from == null || to == null) {
            return UNKNOWN;
        }
        if (from.hasNothing() || to.hasNothing()) {
            return faulted(NULL);
        }
        if (from.lane != to.lane) {
            return faulted(CAST);
        }
        if (!from.hasRun(i, n) || !to.hasRun(j, n)) {
            return faulted(INDEX);
        }
        to.takesRun(j, from, i, n);
        return n;
    }

    public int tell(int k) {
        Rider r = now.riderAt(k);
        if (r == null) {
            return UNKNOWN;
        }
        if (r.kind == UNCLE) {
            return uncleTells(r);
        }
        return r.kind == MAID ? maidTells(r) : childTells(r);
    }

    private int childTells(Rider r) {
        leaveInTrace(1);
        return r.leaning;
    }

    private int maidTells(Rider r) {
        leaveInTrace(2);
        return childTells(r) + 100;
    }

    private int uncleTells(Rider r) {
        leaveInTrace(3);
        int ofMaid = maidTells(r);
        return ofMaid + childTells(r);
    }

    public int call(int k) {
        Rider r = now.riderAt(k);
        if (r == null) {
            return UNKNOWN;
        }
        return r.kind == UNCLE ? uncleIsCalled() : isCalledByLentBody(k);
    }

    private int isCalledByLentBody(int k) {
        leaveInTrace(4);
        return k;
    }

    private int uncleIsCalled() {
        leaveInTrace(5);
        return 80;
    }

    private void leaveInTrace(int number) {
        traceLeft = 31 * traceLeft + number;
    }

    public int as(int k, int kind) {
        latestFault = 0;
        Rider r = now.riderAt(k);
        if (r == null) {
            return UNKNOWN;
        }
        if (kind < CHILD || kind > UNCLE) {
            return OUTSIDE;
        }
        return r.kind < kind ? faulted(CAST) : 1;
    }

    public int trace() {
        return traceLeft;
    }

    public int fault() {
        return latestFault;
    }

    public int many(int what) {
        switch (what) {
            case 0:
                return now.landCount;
            case 1:
                return now.riderCount;
            case 2:
                return now.creaksToMile;
            case 3:
                return now.minute;
            case 4:
                return Integer.bitCount(now.whoseEyesAreShut());
            case 5:
                return readings.count;
            default:
                return OUTSIDE;
        }
    }

    // ---- what several of them use

    private Sheet sheetAt(int k) {
        return k >= 0 && k < sheets.length ? sheets[k] : null;
    }

    private static boolean isLane(int lane) {
        return lane >= BYTES && lane <= INTS;
    }

    private static boolean isOneToNine(int v) {
        return v >= 1 && v <= 9;
    }

    /** CAST or NULL of what a sheet has, taken as a row of a lane; 0 if it is one. */
    private static int rowFault(Sheet s, int lane) {
        if (s.hasNothing()) {
            return NULL;
        }
        return s.lane != lane ? CAST : 0;
    }

    private int faulted(int what) {
        latestFault = what;
        return -10 - what;
    }

    private static int paceOf(int kind, int leaning) {
        if (kind == CHILD) {
            return leaning;
        }
        return kind == MAID ? leaning + 1 : 2 * (leaning + 1);
    }

    /** 0 where there is nothing to divide by: without a nursery there are no creaks to the mile. */
    private static int quotient(int whole, int parts) {
        return parts < 1 ? 0 : whole / parts;
    }

    private static final class Rider {
        int kind;
        int leaning;
        int lasting;
        int gone;
        int shutFor;
        boolean eyesShut;

        void becomesNew(int newKind, int lean, int lasts) {
            kind = newKind;
            leaning = lean;
            lasting = lasts;
            looksUp();
        }

        void becomesLike(Rider other) {
            kind = other.kind;
            leaning = other.leaning;
            lasting = other.lasting;
            gone = other.gone;
            shutFor = other.shutFor;
            eyesShut = other.eyesShut;
        }

        void shutsEyes() {
            eyesShut = true;
            shutFor = 0;
        }

        void looksUp() {
            eyesShut = false;
            shutFor = 0;
            gone = 0;
        }

        /** A minute goes by: whether he looks in it. */
        boolean passesMinute() {
            if (!eyesShut) {
                return false;
            }
            if (shutFor >= lasting) {
                looksUp();
                return true;
            }
            gone += paceOf(kind, leaning);
            shutFor++;
            return false;
        }
    }

    private static final class Nursery {
        final int[] fars;
        final Rider[] riders;
        int creaksToMile;
        int landCount;
        int riderCount;
        int minute;

        Nursery() {
            fars = new int[MOST_LANDS];
            riders = new Rider[MOST_RIDERS];
            for (int k = 0; k < riders.length; k++) {
                riders[k] = new Rider();
            }
        }

        boolean isThere() {
            return creaksToMile > 0;
        }

        void begins(int creaks) {
            creaksToMile = creaks;
            landCount = 0;
            riderCount = 0;
            minute = 0;
        }

        void addLand(int far) {
            if (landCount >= 0 && landCount < fars.length) {
                fars[landCount] = far;
                landCount++;
            }
        }

        void addRider(int kind, int lean, int lasts) {
            if (riderCount >= 0 && riderCount < riders.length) {
                Rider r = riders[riderCount];
                if (r != null) {
                    r.becomesNew(kind, lean, lasts);
                    riderCount++;
                }
            }
        }

        void becomesLike(Nursery other) {
            creaksToMile = other.creaksToMile;
            landCount = other.landCount;
            riderCount = other.riderCount;
            minute = other.minute;
            for (int land = 0; land < fars.length && land < other.fars.length; land++) {
                fars[land] = other.fars[land];
            }
            for (int k = 0; k < riders.length && k < other.riders.length; k++) {
                Rider ours = riders[k];
                Rider theirs = other.riders[k];
                if (ours != null && theirs != null) {
                    ours.becomesLike(theirs);
                }
            }
        }

        Rider riderAt(int k) {
            return k >= 0 && k < riderCount && k < riders.length ? riders[k] : null;
        }

        boolean isLand(int land) {
            return land >= 0 && land < landCount && land < fars.length;
        }

        int farOf(int land) {
            return isLand(land) ? fars[land] : NONE;
        }

        int milesOf(Rider r) {
            return quotient(r.gone, creaksToMile);
        }

        int landOf(Rider r) {
            return landAt(milesOf(r));
        }

        int landAt(int miles) {
            int in = NONE;
            int farthest = 0;
            for (int land = 0; land < landCount && land < fars.length; land++) {
                if (fars[land] <= miles && fars[land] > farthest) {
                    in = land;
                    farthest = fars[land];
                }
            }
            return in;
        }

        boolean areInOneLand(int a, int b) {
            Rider one = riderAt(a);
            Rider two = riderAt(b);
            if (one == null || two == null) {
                return false;
            }
            int land = landOf(one);
            return land != NONE && land == landOf(two);
        }

        int howManyAreInLands() {
            int count = 0;
            for (int k = 0; k < riderCount; k++) {
                Rider r = riderAt(k);
                if (r != null && landOf(r) != NONE) {
                    count++;
                }
            }
            return count;
        }

        /** The lands in which anybody is, as a set. */
        int landsWithAnybody() {
            int set = 0;
            for (int k = 0; k < riderCount; k++) {
                Rider r = riderAt(k);
                int land = r == null ? NONE : landAt(milesOf(r));
                if (land != NONE) {
                    set |= 1 << land;
                }
            }
            return set;
        }

        int whoseEyesAreShut() {
            int set = 0;
            for (int k = 0; k < riderCount; k++) {
                Rider r = riderAt(k);
                if (r != null && r.eyesShut) {
                    set |= 1 << k;
                }
            }
            return set;
        }

        /** A minute goes by: how many look in it. */
        int passMinute() {
            int looks = 0;
            for (int k = 0; k < riderCount; k++) {
                Rider r = riderAt(k);
                if (r != null && r.passesMinute()) {
                    looks++;
                }
            }
            minute++;
            return looks;
        }

        int comingOf(Rider r, int land) {
            for (int m = 1; m <= r.lasting; m++) {
                if (milesBehind(r, m) >= farOf(land)) {
                    return m;
                }
            }
            return NONE;
        }

        private int milesBehind(Rider r, int minutesShut) {
            return quotient(minutesShut * paceOf(r.kind, r.leaning), creaksToMile);
        }

        /** When the last of all comes to a land; NONE if somebody never does. */
        int latestComing(int land) {
            int latest = 0;
            for (int k = 0; k < riderCount; k++) {
                Rider r = riderAt(k);
                int coming = r == null ? NONE : comingOf(r, land);
                if (coming == NONE) {
                    return NONE;
                }
                latest = Math.max(latest, coming);
            }
            return latest;
        }

        /** The lands to which any of a set of riders comes, as a set. */
        int landsComeToBy(int set) {
            int lands = 0;
            for (int k = 0; k < riderCount; k++) {
                Rider r = riderAt(k);
                if (r != null && (set >> k & 1) == 1) {
                    lands |= landsReachedBy(r);
                }
            }
            return lands;
        }

        private int landsReachedBy(Rider r) {
            int lands = 0;
            for (int land = 0; land < landCount; land++) {
                if (comingOf(r, land) != NONE) {
                    lands |= 1 << land;
                }
            }
            return lands;
        }

        /** Behind how many of the minutes that he lasts he is in a land. */
        int minutesIn(Rider r, int land) {
            int count = 0;
            for (int m = 1; m <= r.lasting; m++) {
                if (landAt(milesBehind(r, m)) == land) {
                    count++;
                }
            }
            return count;
        }
    }

    /** The cells of a sheet read as a text; where it is no text, place is the first fault. */
    private static final class Text {
        final Sheet sheet;
        final int from;
        final int length;
        int place;

        Text(Sheet ofSheet, int first, int howMany) {
            sheet = ofSheet;
            from = first;
            length = howMany;
        }

        boolean fills(Nursery nursery) {
            if (!takes('r')) {
                return false;
            }
            int creaks = takesDigit(1);
            if (creaks == NONE) {
                return false;
            }
            nursery.begins(creaks);
            for (int land = 0; land < MOST_LANDS && (land == 0 || next() == ','); land++) {
                if (!fillsLand(nursery)) {
                    return false;
                }
            }
            for (int k = 0; k < MOST_RIDERS && (k == 0 || next() == ';'); k++) {
                if (!fillsRider(nursery)) {
                    return false;
                }
            }
            return place == length;
        }

        private boolean fillsLand(Nursery nursery) {
            if (!takes(',')) {
                return false;
            }
            int tens = takesDigit(0);
            if (tens == NONE) {
                return false;
            }
            int ones = takesDigit(tens == 0 ? 1 : 0);
            if (ones == NONE) {
                return false;
            }
            nursery.addLand(10 * tens + ones);
            return true;
        }

        private boolean fillsRider(Nursery nursery) {
            if (!takes(';')) {
                return false;
            }
            int kind = takesKind();
            if (kind == NONE) {
                return false;
            }
            int lean = takesDigit(1);
            if (lean == NONE) {
                return false;
            }
            int lasts = takesDigit(1);
            if (lasts == NONE) {
                return false;
            }
            nursery.addRider(kind, lean, lasts);
            return true;
        }

        private int takesKind() {
            int kind = kindBy(next());
            if (kind != NONE) {
                place++;
            }
            return kind;
        }

        private static int kindBy(int letter) {
            if (letter == 'c') {
                return CHILD;
            }
            if (letter == 'm') {
                return MAID;
            }
            return letter == 'u' ? UNCLE : NONE;
        }

        private int takesDigit(int least) {
            int code = next();
            if (code < '0' + least || code > '9') {
                return NONE;
            }
            place++;
            return code - '0';
        }

        private boolean takes(int code) {
            if (next() != code) {
                return false;
            }
            place++;
            return true;
        }

        /** NONE is no code that any text has, so it can stand for the end. */
        private int next() {
            return place < length ? sheet.at(from + place) : NONE;
        }
    }

    /** An afternoon that is told: it happens in a nursery of its own, for nothing of the real one may change. */
    private static final class Tale {
        static final int SHUTS = 0, LOOKS = 1, PASSES = 2;

        final Nursery nursery;
        int looks;
        int landsSeen;

        Tale() {
            nursery = new Nursery();
        }

        /** The first wrong of n pairs, NONE if there is none. */
        int tells(Nursery asItIs, Sheet s, int i, int n) {
            nursery.becomesLike(asItIs);
            looks = 0;
            landsSeen = 0;
            for (int pair = 0; pair < n; pair++) {
                if (!acts(s.at(i + 2 * pair), s.at(i + 2 * pair + 1))) {
                    return pair;
                }
            }
            return NONE;
        }

        /** Whether an act can be; if so it is done. */
        private boolean acts(int first, int second) {
            if (second == PASSES) {
                passMinutes(first);
                return true;
            }
            Rider r = nursery.riderAt(first);
            if (r == null || r.eyesShut != (second == LOOKS)) {
                return false;
            }
            if (second == LOOKS) {
                r.looksUp();
                looks++;
            } else {
                r.shutsEyes();
            }
            return true;
        }

        private void passMinutes(int n) {
            for (int m = 0; m < n; m++) {
                looks += nursery.passMinute();
                landsSeen |= nursery.landsWithAnybody();
            }
        }
    }

    /** Who should go whither, found from the last rider to the first by what is best from each on. */
    private static final class Guiding {
        private static final int SETS = 1 << MOST_LANDS;
        /** What a land more is worth: more than all minutes that any riders can take together. */
        private static final int LAND_WORTH = 100;
        private static final int NO_LAND = 9;

        final int[] comings;
        /** The best worth that riders from k on reach if a set of lands is taken, at k * SETS and the set. */
        final int[] best;
        final int[] given;
        int landsGiven;
        int minutesTaken;

        Guiding() {
            comings = new int[MOST_RIDERS * MOST_LANDS];
            best = new int[(MOST_RIDERS + 1) * SETS];
            given = new int[MOST_RIDERS];
        }

        void finds(Nursery nursery) {
            readComings(nursery);
            for (int k = MOST_RIDERS - 1; k >= 0; k--) {
                for (int taken = 0; taken < SETS; taken++) {
                    setBest(k, taken, worthOf(k, taken, choice(k, taken)));
                }
            }
            gives();
        }

        private void readComings(Nursery nursery) {
            for (int at = 0; at < comings.length; at++) {
                Rider r = nursery.riderAt(at / MOST_LANDS);
                int land = at % MOST_LANDS;
                comings[at] = r == null || !nursery.isLand(land) ? NONE : nursery.comingOf(r, land);
            }
        }

        private void gives() {
            landsGiven = 0;
            minutesTaken = 0;
            int taken = 0;
            for (int k = 0; k < given.length; k++) {
                int land = choice(k, taken);
                given[k] = land == NO_LAND ? NONE : land;
                if (land != NO_LAND) {
                    taken |= 1 << land;
                    landsGiven++;
                    minutesTaken += comingOf(k, land);
                }
            }
        }

        /** The first land by which most is reached from rider k on; none is tried last, as its 9 is last in a row. */
        private int choice(int k, int taken) {
            int chosen = NO_LAND;
            int most = -1;
            for (int land = 0; land < MOST_LANDS; land++) {
                int worth = worthOf(k, taken, land);
                if (worth > most) {
                    chosen = land;
                    most = worth;
                }
            }
            return worthOf(k, taken, NO_LAND) > most ? NO_LAND : chosen;
        }

        /** What is reached if rider k is given a land; -1 if he can't be. */
        private int worthOf(int k, int taken, int land) {
            if (land == NO_LAND) {
                return bestFrom(k + 1, taken);
            }
            int coming = comingOf(k, land);
            if (coming == NONE || (taken >> land & 1) == 1) {
                return -1;
            }
            return LAND_WORTH - coming + bestFrom(k + 1, taken | 1 << land);
        }

        private int comingOf(int k, int land) {
            int at = k * MOST_LANDS + land;
            return at >= 0 && at < comings.length ? comings[at] : NONE;
        }

        private int bestFrom(int k, int taken) {
            int at = k * SETS + taken;
            return at >= 0 && at < best.length ? best[at] : 0;
        }

        private void setBest(int k, int taken, int worth) {
            int at = k * SETS + taken;
            if (at >= 0 && at < best.length) {
                best[at] = worth;
            }
        }

        int landGivenTo(int k) {
            return k >= 0 && k < given.length ? given[k] : NONE;
        }
    }

    private static final class Readings {
        final int[] riders;
        final int[] minutes;
        final int[] miles;
        int count;

        Readings() {
            riders = new int[MOST_READINGS];
            minutes = new int[MOST_READINGS];
            miles = new int[MOST_READINGS];
        }

        void adds(int k, int inMinutes, int v) {
            if (has(count)) {
                riders[count] = k;
                minutes[count] = inMinutes;
                miles[count] = v;
                count++;
            }
        }

        /** Whether all are so if rider k (nobody, where he is none) were of a kind and leant so, at so many creaks. */
        boolean areSo(Nursery nursery, int k, int kind, int leaning, int creaks) {
            for (int i = 0; i < count; i++) {
                if (!has(i)) {
                    return false;
                }
                int pace = riders[i] == k ? paceOf(kind, leaning) : paceIn(nursery, riders[i]);
                if (quotient(pace * minutes[i], creaks) != miles[i]) {
                    return false;
                }
            }
            return true;
        }

        private static int paceIn(Nursery nursery, int k) {
            Rider r = nursery.riderAt(k);
            return r == null ? 0 : paceOf(r.kind, r.leaning);
        }

        private boolean has(int i) {
            return i >= 0 && i < riders.length && i < minutes.length && i < miles.length;
        }
    }

    private static final class Sheet {
        private static final int NO_LANE = -1;

        final int[] cells;
        int lane;
        int length;

        Sheet() {
            cells = new int[MOST_CELLS];
            lane = NO_LANE;
        }

        boolean hasNothing() {
            return lane == NO_LANE;
        }

        void becomesNothing() {
            lane = NO_LANE;
            length = 0;
        }

        void becomesRow(int newLane, int n) {
            lane = newLane;
            length = Math.max(0, Math.min(n, cells.length));
            for (int i = 0; i < cells.length; i++) {
                cells[i] = 0;
            }
        }

        boolean hasCell(int i) {
            return i >= 0 && i < length && i < cells.length;
        }

        /** Whether n cells from i on are there; of none i itself must be a place or the end. */
        boolean hasRun(int i, int n) {
            return n >= 0 && i >= 0 && i <= length && length <= cells.length && n <= length - i;
        }

        int at(int i) {
            return hasCell(i) ? cells[i] : 0;
        }

        void setCell(int i, int v) {
            if (hasCell(i)) {
                cells[i] = cutToLane(v);
            }
        }

        private int cutToLane(int v) {
            if (lane == BYTES) {
                return (byte) v;
            }
            return lane == SHORTS ? (short) v : v;
        }

        void takesRun(int j, Sheet from, int i, int n) {
            if (from.hasRun(i, n) && hasRun(j, n)) {
                System.arraycopy(from.cells, i, cells, j, n);
            }
        }
    }
}
