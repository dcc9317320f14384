import java.util.ArrayList;
import java.util.List;
import java.util.regex.Matcher;
import java.util.regex.Pattern;

/** The document once more, in the library's words and by trying all ways, to compare the class with. */
final class Reference {
    private static final int UNKNOWN = -1, OUTSIDE = -2, STATE = -3, FULL = -4, NONE = -9;
    private static final long LOST = Long.MIN_VALUE;
    private static final Pattern TEXT =
        Pattern.compile("r[1-9](,(0[1-9]|[1-9][0-9])){1,5}(;[cmu][1-9][1-9]){1,5}");

    private record Reading(int rider, int minutes, int miles) {
    }

    private static final class Rider {
        int kind;
        int lean;
        int lasts;
        int gone;
        int shutFor = -1;

        Rider copy() {
            Rider r = new Rider();
            r.kind = kind;
            r.lean = lean;
            r.lasts = lasts;
            r.gone = gone;
            r.shutFor = shutFor;
            return r;
        }
    }

    private List<Rider> riders = new ArrayList<>();
    private List<Integer> fars = new ArrayList<>();
    private List<Reading> readings = new ArrayList<>();
    private int creaksToMile = 0;
    private int minute = 0;
    private final int[][] rows = new int[4][];
    private final int[] lanes = new int[4];
    private int trace = 0;
    private int fault = 0;

    private boolean rider(int k) {
        return k >= 0 && k < riders.size();
    }

    private boolean land(int land) {
        return land >= 0 && land < fars.size();
    }

    private static int pace(int kind, int lean) {
        return new int[] {lean, lean + 1, 2 * lean + 2}[kind];
    }

    private int in(int miles) {
        int in = NONE;
        for (int l = fars.size() - 1; l >= 0; l--) {
            if (fars.get(l) <= miles && (in == NONE || fars.get(l) >= fars.get(in))) {
                in = l;
            }
        }
        return in;
    }

    private int in(Rider r) {
        return in(r.gone / creaksToMile);
    }

    private int faulted(int what) {
        fault = what;
        return -10 - what;
    }

    private int rowFault(int k, int lane) {
        return rows[k] == null ? 1 : lanes[k] != lane ? 2 : 0;
    }

    private boolean run(int k, long i, long n) {
        return i >= 0 && n >= 0 && i + n <= rows[k].length;
    }

    int nursery(int k, int lane, int i, int n) {
        fault = 0;
        if (k < 0 || k > 3) return UNKNOWN;
        if (lane < 0 || lane > 2) return OUTSIDE;
        if (rowFault(k, lane) != 0) return faulted(rowFault(k, lane));
        if (n < 0) return faulted(4);
        if (!run(k, i, n)) return faulted(3);
        StringBuilder b = new StringBuilder();
        for (int j = 0; j < n; j++) {
            int code = rows[k][i + j];
            b.append(code < 0 || code > 126 ? '?' : (char) code);
        }
        String text = b.toString();
        if (!TEXT.matcher(text).matches()) return -100 - firstFault(text);
        creaksToMile = text.charAt(1) - '0';
        minute = 0;
        fars = new ArrayList<>();
        riders = new ArrayList<>();
        readings = new ArrayList<>();
        String[] parts = text.split(";");
        String[] lands = parts[0].split(",");
        for (int j = 1; j < lands.length; j++) fars.add(Integer.parseInt(lands[j]));
        for (int j = 1; j < parts.length; j++) {
            Rider r = new Rider();
            r.kind = "cmu".indexOf(parts[j].charAt(0));
            r.lean = parts[j].charAt(1) - '0';
            r.lasts = parts[j].charAt(2) - '0';
            riders.add(r);
        }
        return riders.size();
    }

    /** The length of the longest head with which a text can go on. */
    private static int firstFault(String text) {
        for (int n = 1; n <= text.length(); n++) {
            Matcher m = TEXT.matcher(text.substring(0, n));
            if (!m.matches() && !m.hitEnd()) return n - 1;
        }
        return text.length();
    }

    int ofRider(int k, int what) {
        if (!rider(k)) return UNKNOWN;
        if (what < 0 || what > 8) return OUTSIDE;
        Rider r = riders.get(k);
        return new int[] {r.kind, r.lean, r.lasts, pace(r.kind, r.lean), r.gone, r.gone / creaksToMile, in(r),
            r.shutFor < 0 ? 0 : 1, Math.max(0, r.shutFor)}[what];
    }

    int far(int land) {
        return land(land) ? fars.get(land) : UNKNOWN;
    }

    int wax(int v) {
        if (creaksToMile == 0) return STATE;
        if (v < 1 || v > 9) return OUTSIDE;
        int was = creaksToMile;
        creaksToMile = v;
        return was;
    }

    int lean(int k, int v) {
        if (!rider(k)) return UNKNOWN;
        if (v < 1 || v > 9) return OUTSIDE;
        int was = riders.get(k).lean;
        riders.get(k).lean = v;
        return was;
    }

    private static int pass(List<Rider> all) {
        int looks = 0;
        for (Rider r : all) {
            if (r.shutFor < 0) continue;
            if (r.shutFor == r.lasts) {
                r.gone = 0;
                r.shutFor = -1;
                looks++;
            } else {
                r.gone += pace(r.kind, r.lean);
                r.shutFor++;
            }
        }
        return looks;
    }

    private static int shutSet(List<Rider> all) {
        int set = 0;
        for (int k = 0; k < all.size(); k++) if (all.get(k).shutFor >= 0) set |= 1 << k;
        return set;
    }

    private List<Rider> copies() {
        List<Rider> all = new ArrayList<>();
        for (Rider r : riders) all.add(r.copy());
        return all;
    }

    int minutes(int n) {
        if (n < 1 || n > 99) return OUTSIDE;
        if (creaksToMile == 0) return STATE;
        minute += n;
        int looks = 0;
        for (int m = 0; m < n; m++) looks += pass(riders);
        return looks;
    }

    int shut(int k) {
        if (!rider(k)) return UNKNOWN;
        if (riders.get(k).shutFor >= 0) return STATE;
        riders.get(k).shutFor = 0;
        return many(4);
    }

    int look(int k) {
        if (!rider(k)) return UNKNOWN;
        Rider r = riders.get(k);
        if (r.shutFor < 0) return STATE;
        int was = in(r);
        r.shutFor = -1;
        r.gone = 0;
        return was;
    }

    int afternoon(int k, int lane, int i, int n, int what) {
        fault = 0;
        if (k < 0 || k > 3) return UNKNOWN;
        if (lane < 0 || lane > 2 || n < 0 || n > 20) return OUTSIDE;
        if (what < 0 || what > 14 || what > 4 && what < 10) return OUTSIDE;
        if (creaksToMile == 0) return STATE;
        if (rowFault(k, lane) != 0) return faulted(rowFault(k, lane));
        if (!run(k, i, 2L * n)) return faulted(3);
        for (int p = 0; p < n; p++) {
            int first = rows[k][i + 2 * p];
            int second = rows[k][i + 2 * p + 1];
            if (second < 0 || second > 2 || second == 2 && (first < 0 || first > 20)) return OUTSIDE;
            if (second != 2 && !rider(first)) return UNKNOWN;
        }
        List<Rider> all = copies();
        int looks = 0;
        int lands = 0;
        for (int p = 0; p < n; p++) {
            int first = rows[k][i + 2 * p];
            int second = rows[k][i + 2 * p + 1];
            if (second == 2) {
                for (int m = 0; m < first; m++) {
                    looks += pass(all);
                    for (Rider r : all) if (in(r) != NONE) lands |= 1 << in(r);
                }
                continue;
            }
            Rider r = all.get(first);
            if (second == 0 && r.shutFor >= 0 || second == 1 && r.shutFor < 0) return what == 1 ? p : -100 - p;
            r.shutFor = second == 0 ? 0 : -1;
            if (second == 1) {
                r.gone = 0;
                looks++;
            }
        }
        if (what >= 10) return what - 10 < all.size() ? all.get(what - 10).gone / creaksToMile : NONE;
        int inAny = 0;
        for (Rider r : all) if (in(r) != NONE) inAny++;
        return new int[] {inAny, NONE, shutSet(all), lands, looks}[what];
    }

    private int coming(int k, int land) {
        Rider r = riders.get(k).copy();
        r.gone = 0;
        r.shutFor = 0;
        List<Rider> alone = List.of(r);
        for (int m = 1; m <= r.lasts; m++) {
            pass(alone);
            if (r.gone / creaksToMile >= fars.get(land)) return m;
        }
        return NONE;
    }

    int comes(int k, int land) {
        return rider(k) && land(land) ? coming(k, land) : UNKNOWN;
    }

    int together(int a, int b) {
        if (!rider(a) || !rider(b) || a == b) return UNKNOWN;
        List<Rider> all = copies();
        for (int m = 0; m <= 99; m++) {
            if (in(all.get(a)) != NONE && in(all.get(a)) == in(all.get(b))) return m;
            pass(all);
        }
        return NONE;
    }

    int waits(int land, int k) {
        if (!land(land) || !rider(k)) return UNKNOWN;
        int latest = 0;
        for (int j = 0; j < riders.size(); j++) {
            if (coming(j, land) == NONE) return NONE;
            latest = Math.max(latest, coming(j, land));
        }
        return latest - coming(k, land);
    }

    private int seenBy(int set) {
        int lands = 0;
        for (int k = 0; k < riders.size(); k++)
            for (int l = 0; l < fars.size(); l++)
                if ((set >> k & 1) == 1 && coming(k, l) != NONE) lands |= 1 << l;
        return lands;
    }

    int scouts() {
        if (creaksToMile == 0) return STATE;
        int all = (1 << riders.size()) - 1;
        int want = seenBy(all);
        for (int size = 0; size <= riders.size(); size++)
            for (int set = 0; set <= all; set++)
                if (Integer.bitCount(set) == size && seenBy(set) == want) return set;
        return -77;
    }

    int guides(int k) {
        if (creaksToMile == 0) return STATE;
        if (k < -2 || k > 4) return OUTSIDE;
        int[][] coming = new int[riders.size()][fars.size()];
        for (int j = 0; j < riders.size(); j++) for (int l = 0; l < fars.size(); l++) coming[j][l] = coming(j, l);
        int[] best = null;
        int[] row = new int[riders.size()];
        int bestLands = -1;
        int bestMinutes = 0;
        int ways = (int) Math.pow(6, riders.size());
        for (int way = 0; way < ways; way++) {
            int rest = way;
            for (int j = riders.size() - 1; j >= 0; j--) {
                row[j] = rest % 6;
                rest /= 6;
            }
            int lands = 0;
            int minutes = 0;
            int taken = 0;
            boolean can = true;
            for (int j = 0; j < row.length && can; j++) {
                if (row[j] == 5) continue;
                can = row[j] < fars.size() && (taken >> row[j] & 1) == 0 && coming[j][row[j]] != NONE;
                if (!can) continue;
                taken |= 1 << row[j];
                lands++;
                minutes += coming[j][row[j]];
            }
            if (can && (lands > bestLands || lands == bestLands && minutes < bestMinutes)) {
                best = row.clone();
                bestLands = lands;
                bestMinutes = minutes;
            }
        }
        if (k == -2) return bestLands;
        if (k == -1) return bestMinutes;
        return k >= riders.size() || best[k] == 5 ? NONE : best[k];
    }

    int reading(int k, int minutes, int v) {
        if (!rider(k)) return UNKNOWN;
        if (minutes < 0 || minutes > 20 || v < 0 || v > 400) return OUTSIDE;
        if (readings.size() == 8) return FULL;
        readings.add(new Reading(k, minutes, v));
        return readings.size() - 1;
    }

    int back(int k) {
        if (k < 0 || k > readings.size()) return OUTSIDE;
        for (int j = 0; j < k; j++) readings.remove(readings.size() - 1);
        return readings.size();
    }

    private boolean allSo() {
        for (Reading g : readings) {
            Rider r = riders.get(g.rider());
            if (pace(r.kind, r.lean) * g.minutes() / creaksToMile != g.miles()) return false;
        }
        return true;
    }

    int leans(int k) {
        if (!rider(k)) return UNKNOWN;
        Rider r = riders.get(k);
        int was = r.lean;
        int set = 0;
        for (r.lean = 1; r.lean <= 9; r.lean++) if (allSo()) set |= 1 << r.lean;
        r.lean = was;
        return set;
    }

    int kinds(int k) {
        if (!rider(k)) return UNKNOWN;
        Rider r = riders.get(k);
        int was = r.kind;
        int set = 0;
        for (r.kind = 0; r.kind <= 2; r.kind++) if (allSo()) set |= 1 << r.kind;
        r.kind = was;
        return set;
    }

    int creaks() {
        if (creaksToMile == 0) return STATE;
        int was = creaksToMile;
        int set = 0;
        for (creaksToMile = 1; creaksToMile <= 9; creaksToMile++) if (allSo()) set |= 1 << creaksToMile;
        creaksToMile = was;
        return set;
    }

    long odds(int k, int land, int which) {
        if (!rider(k) || !land(land) || which < 0 || which > 1) return LOST;
        Rider r = riders.get(k);
        int upper = 0;
        for (int m = 1; m <= r.lasts; m++) if (in(m * pace(r.kind, r.lean) / creaksToMile) == land) upper++;
        int divisor = java.math.BigInteger.valueOf(upper).gcd(java.math.BigInteger.valueOf(r.lasts)).intValue();
        return (which == 0 ? upper : r.lasts) / divisor;
    }

    int sheet(int k, int lane, int n) {
        fault = 0;
        if (k < 0 || k > 3) return UNKNOWN;
        if (lane < 0 || lane > 2 || n > 60) return OUTSIDE;
        if (n < 0) return faulted(4);
        rows[k] = new int[n];
        lanes[k] = lane;
        return 1;
    }

    int lose(int k) {
        if (k < 0 || k > 3) return UNKNOWN;
        int had = rows[k] == null ? 0 : 1;
        rows[k] = null;
        return had;
    }

    int put(int k, int i, int v) {
        fault = 0;
        if (k < 0 || k > 3) return UNKNOWN;
        if (rows[k] == null) return faulted(1);
        if (!run(k, i, 1)) return faulted(3);
        rows[k][i] = lanes[k] == 0 ? (byte) v : lanes[k] == 1 ? (short) v : v;
        return 1;
    }

    long cell(int k, int i, int lane) {
        fault = 0;
        if (k < 0 || k > 3 || lane < 0 || lane > 2) return LOST;
        fault = rowFault(k, lane);
        if (fault == 0 && !run(k, i, 1)) fault = 3;
        return fault == 0 ? rows[k][i] : LOST;
    }

    int copy(int k, int i, int other, int j, int n) {
        fault = 0;
        if (k < 0 || k > 3 || other < 0 || other > 3) return UNKNOWN;
        if (rows[k] == null || rows[other] == null) return faulted(1);
        if (lanes[k] != lanes[other]) return faulted(2);
        if (!run(k, i, n) || !run(other, j, n)) return faulted(3);
        int[] were = rows[k].clone();
        for (int c = 0; c < n; c++) rows[other][j + c] = were[i + c];
        return n;
    }

    private void leave(int... numbers) {
        for (int number : numbers) trace = trace * 31 + number;
    }

    int tell(int k) {
        if (!rider(k)) return UNKNOWN;
        Rider r = riders.get(k);
        if (r.kind == 0) leave(1);
        if (r.kind == 1) leave(2, 1);
        if (r.kind == 2) leave(3, 2, 1, 1);
        return new int[] {r.lean, r.lean + 100, r.lean + 100 + r.lean}[r.kind];
    }

    int call(int k) {
        if (!rider(k)) return UNKNOWN;
        boolean uncle = riders.get(k).kind == 2;
        leave(uncle ? 5 : 4);
        return uncle ? 80 : k;
    }

    int as(int k, int kind) {
        fault = 0;
        if (!rider(k)) return UNKNOWN;
        if (kind < 0 || kind > 2) return OUTSIDE;
        return riders.get(k).kind >= kind ? 1 : faulted(2);
    }

    int trace() {
        return trace;
    }

    int fault() {
        return fault;
    }

    int many(int what) {
        if (what < 0 || what > 5) return OUTSIDE;
        return new int[] {fars.size(), riders.size(), creaksToMile, minute, Integer.bitCount(shutSet(riders)),
            readings.size()}[what];
    }
}
