import java.util.ArrayList;
import java.util.List;

/**
 * The document's words in their most literal form, as slow as may be: rows of the FORMS themselves, all PLANS, all
 * MUDS, all VOLUMES. It shares no way of reckoning with DeepHole, so that both are hardly wrong in the same way.
 */
final class Model {
    private static final int[] C = {65, 63, 60, 56, 52, 39, 33, 25, 16, 0};
    private static final int[] S = {0, 16, 25, 33, 39, 52, 56, 60, 63, 65};
    private static final int BAD = -2, NOT = -3, FULL = -4;
    private static final int LEAST_INT = Integer.MIN_VALUE;

    private final Object[] sheets = new Object[4];
    private int finding = 0;
    private int depth = 0, shoe = 0, low = 0, high = 0, cap = 10, swab = 100;
    private final List<int[]> strings = new ArrayList<>();
    private int[] kick = null;
    private final List<int[]> pulls = new ArrayList<>();
    private int forceEnd = 0, stretchEnd = 0, k = 100;
    private final int[] begins = {0, 0};
    private final List<List<int[]>> stations = List.of(new ArrayList<>(), new ArrayList<>());

    /** Answers a call by its name, so that a run can be drawn by lot. */
    long answer(String name, int[] a) {
        switch (name) {
            case "hole": return hole(a[0], a[1]);
            case "margins": return margins(a[0], a[1]);
            case "ground": return out(a[0], 0, 1) || out(a[1], 0, 49) ? BAD : ground(a[0], a[1]);
            case "breaks": return breaks(a[0]);
            case "window": return window(a[0], a[1], a[2]);
            case "string": return string(a[0], a[1]);
            case "bare": return emptied(strings);
            case "plan": return plan(a[0]);
            case "shoe": return shoe(a[0], a[1]);
            case "cap": return cap(a[0]);
            case "kick": return kick(a[0], a[1], a[2]);
            case "gas": return gas(a[0], a[1]);
            case "broken": return kick == null ? NOT : broken(kick);
            case "bears": return bears(a[0], a[1]);
            case "swab": return swab(a[0]);
            case "speed": return out(a[0], 0, 3000) || out(a[1], 1, depth) ? BAD : speed(a[0], a[1]);
            case "trip": return out(a[0], 0, 3000) ? BAD : trip(a[0]);
            case "lightest": return lightest(a[0]);
            case "pull": return pull(a[0], a[1]);
            case "slack": return emptied(pulls);
            case "ends": return ends(a[0], a[1], a[2]);
            case "free": return free(a[0]);
            case "begin": return begin(a[0], a[1]);
            case "station": return station(a[0], a[1], a[2]);
            case "place": return place(a[0], a[1], a[2]);
            case "nearest": return nearest(2);
            case "where": return out(a[0], 0, 1) ? BAD : where(a[0]);
            case "sheet": return sheet(a[0], a[1], a[2]);
            case "lose": return lose(a[0]);
            case "put": return put(a[0], a[1], a[2], a[3]);
            case "get": return get(a[0], a[1], a[2]);
            case "copy": return copy(a[0], a[1], a[2], a[3], a[4]);
            case "count": return count(a[0]);
            case "digest": return digest();
            default: throw new IllegalArgumentException(name);
        }
    }

    private static boolean out(int n, int least, int greatest) {
        return n < least || n > greatest;
    }

    private static long refused(int code) {
        return Long.MIN_VALUE + -code;
    }

    private static int emptied(List<int[]> row) {
        int were = row.size();
        row.clear();
        return were;
    }

    // ---- the ground

    private int hole(int d, int s) {
        if (out(d, 0, 50) || out(s, 0, d)) {
            return BAD;
        }
        depth = d;
        shoe = s;
        return 1;
    }

    private int margins(int l, int h) {
        if (out(l, 0, 500) || out(h, 0, 500)) {
            return BAD;
        }
        low = l;
        high = h;
        return 1;
    }

    private int ground(int what, int i) {
        Object row = sheets[what];
        boolean itsOwn = row != null && i < length(row) && item(row, i) >= 0 && item(row, i) <= 3000;
        if (itsOwn) {
            return item(row, i);
        }
        if (i > 0) {
            return ground(what, i - 1);
        }
        return what == 0 ? 0 : 3000;
    }

    private boolean holds(int m, int from, int to) {
        for (int i = from; i < to; i++) {
            if (m < ground(0, i) + low || m > ground(1, i) - high) {
                return false;
            }
        }
        return true;
    }

    private int breaks(int m) {
        if (out(m, 0, 3000)) {
            return BAD;
        }
        for (int i = shoe; i < depth; i++) {
            if (!holds(m, i, i + 1)) {
                return i;
            }
        }
        return -1;
    }

    private int window(int i, int j, int end) {
        if (out(i, 0, 49) || out(j, 0, 49) || i > j || out(end, 0, 1)) {
            return BAD;
        }
        int found = NOT;
        for (int m = 0; m <= 3000; m++) {
            if (holds(m, i, j + 1)) {
                if (end == 0) {
                    return m;
                }
                found = m;
            }
        }
        return found;
    }

    // ---- casings

    private int string(int price, int reach) {
        if (out(price, 1, 1000) || out(reach, 1, 50)) {
            return BAD;
        }
        if (strings.size() == 6) {
            return FULL;
        }
        strings.add(new int[] {price, reach});
        return strings.size();
    }

    private boolean oneMudHolds(int from, int to) {
        return window(from, to - 1, 0) != NOT;
    }

    private int cost(List<Integer> plan) {
        int cost = 0;
        for (int i = 0; i < plan.size(); i++) {
            cost += strings.get(i)[0] * plan.get(i);
        }
        return cost;
    }

    private boolean better(List<Integer> one, List<Integer> other) {
        if (other == null || cost(one) != cost(other)) {
            return other == null || cost(one) < cost(other);
        }
        if (one.size() != other.size()) {
            return one.size() < other.size();
        }
        for (int i = 0; i < one.size(); i++) {
            if (!one.get(i).equals(other.get(i))) {
                return one.get(i) < other.get(i);
            }
        }
        return false;
    }

    private List<Integer> best(List<Integer> begun, int d, boolean[][] held, List<Integer> bestYet) {
        int last = begun.isEmpty() ? 0 : begun.get(begun.size() - 1);
        if (last == d) {
            return better(begun, bestYet) ? new ArrayList<>(begun) : bestYet;
        }
        int i = begun.size();
        for (int s = last + 1; i < strings.size() && s <= d; s++) {
            if (s <= strings.get(i)[1] && held[last][s]) {
                begun.add(s);
                bestYet = best(begun, d, held, bestYet);
                begun.remove(begun.size() - 1);
            }
        }
        return bestYet;
    }

    private List<Integer> thePlan(int d) {
        boolean[][] held = new boolean[51][51];
        for (int from = 0; from < d; from++) {
            for (int to = from + 1; to <= d && (to == from + 1 || held[from][to - 1]); to++) {
                held[from][to] = oneMudHolds(from, to);
            }
        }
        return best(new ArrayList<>(), d, held, null);
    }

    private int plan(int d) {
        if (out(d, 1, 50)) {
            return BAD;
        }
        List<Integer> plan = thePlan(d);
        return plan == null ? NOT : cost(plan);
    }

    private int shoe(int d, int i) {
        if (out(d, 1, 50) || i < 0) {
            return BAD;
        }
        List<Integer> plan = thePlan(d);
        if (plan == null) {
            return NOT;
        }
        return i < plan.size() ? plan.get(i) : BAD;
    }

    // ---- kicks

    private int cap(int volume) {
        if (out(volume, 1, 1000)) {
            return BAD;
        }
        int was = cap;
        cap = volume;
        return was;
    }

    /** G, VOLUME, HEIGHT, CHOKE, the pressure at the SHOE, whether it BREAKS it. */
    private long[] stands(int[] vwm, int p) {
        long v = vwm[0], b = (long) vwm[1] * depth, m = vwm[2];
        long g = b - m * (depth - p);
        g = g < 1 ? 1 : g;
        long volume = v * b / g;
        long h = volume / cap > p ? p : volume / cap;
        long choke = g - m * (p - h) < 0 ? 0 : g - m * (p - h);
        long at = shoe <= p - h ? choke + m * shoe : shoe <= p ? g : b - m * (depth - shoe);
        boolean breaks = shoe > 0 && at > (long) ground(1, shoe - 1) * shoe;
        return new long[] {g, volume, h, choke, at, breaks ? 1 : 0};
    }

    private int kick(int v, int w, int m) {
        if (out(v, 1, 1000) || out(w, 1, 3000) || out(m, 0, 3000)) {
            return BAD;
        }
        if (depth == 0) {
            return NOT;
        }
        kick = new int[] {v, w, m};
        int best = 0;
        for (int p = 1; p <= depth; p++) {
            if (stands(kick, p)[1] >= stands(kick, best)[1]) {
                best = p;
            }
        }
        return best;
    }

    private long gas(int p, int what) {
        if (out(p, 0, depth) || out(what, 0, 5)) {
            return refused(BAD);
        }
        return kick == null ? refused(NOT) : stands(kick, p)[what];
    }

    private int broken(int[] vwm) {
        int greatest = -1;
        for (int p = 0; p <= depth; p++) {
            greatest = stands(vwm, p)[5] == 1 ? p : greatest;
        }
        return greatest;
    }

    private int bears(int w, int m) {
        if (out(w, 1, 3000) || out(m, 0, 3000)) {
            return BAD;
        }
        if (depth == 0) {
            return NOT;
        }
        int greatest = 0;
        for (int v = 1; v <= 1000; v++) {
            greatest = broken(new int[] {v, w, m}) == -1 ? v : greatest;
        }
        return greatest;
    }

    // ---- trips

    private int swab(int v) {
        if (out(v, 0, 1000)) {
            return BAD;
        }
        int was = swab;
        swab = v;
        return was;
    }

    private boolean safe(int m, int b, int v) {
        int then = m - swab * v * b / 1000;
        for (int i = shoe; i < depth; i++) {
            if (then < ground(0, i)) {
                return false;
            }
        }
        return true;
    }

    private int speed(int m, int b) {
        int greatest = 0;
        for (int v = 1; v <= 9; v++) {
            greatest = safe(m, b, v) ? v : greatest;
        }
        return greatest;
    }

    private int trip(int m) {
        int time = 0;
        for (int b = depth; b > 0; b--) {
            int v = speed(m, b);
            if (v == 0) {
                return -1000 - b;
            }
            time += 360 / v + (360 % v == 0 ? 0 : 1);
        }
        return time;
    }

    private int lightest(int time) {
        if (out(time, 0, 100000)) {
            return BAD;
        }
        for (int m = 0; m <= 3000; m++) {
            if (holds(m, shoe, depth)) {
                int taken = trip(m);
                if (taken > -1 && taken <= time) {
                    return m;
                }
            }
        }
        return NOT;
    }

    // ---- stuck

    private int pull(int f, int e) {
        if (out(f, 10, 10000) || out(e, 0, 100000)) {
            return BAD;
        }
        if (pulls.size() == 20) {
            return FULL;
        }
        pulls.add(new int[] {f, e});
        return pulls.size();
    }

    private int ends(int f, int e, int newK) {
        if (out(f, 0, 9) || out(e, 0, 1000) || out(newK, 1, 1000)) {
            return BAD;
        }
        forceEnd = f;
        stretchEnd = e;
        k = newK;
        return 1;
    }

    private long free(int end) {
        if (out(end, 0, 1)) {
            return refused(BAD);
        }
        long from = -1, to = -1;
        for (int[] pull : pulls) {
            long e = pull[1] - stretchEnd < 0 ? 0 : pull[1] - stretchEnd;
            long least = e * k / (pull[0] + forceEnd);
            long greatest = (long) Math.ceil((pull[1] + stretchEnd) * (double) k / (pull[0] - forceEnd));
            from = from == -1 || least > from ? least : from;
            to = to == -1 || greatest < to ? greatest : to;
        }
        return pulls.isEmpty() || from > to ? refused(NOT) : end == 0 ? from : to;
    }

    // ---- paths

    private int begin(int hole, int x) {
        if (out(hole, 0, 1) || out(x, -100000, 100000)) {
            return BAD;
        }
        begins[hole] = x;
        return emptied(stations.get(hole));
    }

    private int station(int hole, int turn, int side) {
        if (out(hole, 0, 1) || out(turn, 0, 9) || Math.abs(side) != 1) {
            return BAD;
        }
        if (stations.get(hole).size() == 40) {
            return FULL;
        }
        stations.get(hole).add(new int[] {turn, side});
        return stations.get(hole).size();
    }

    private int place(int hole, int i, int what) {
        if (out(hole, 0, 1) || out(i, 0, stations.get(hole).size()) || out(what, 0, 1)) {
            return LEAST_INT;
        }
        int sum = what == 0 ? begins[hole] : 0;
        for (int[] station : stations.get(hole).subList(0, i)) {
            sum += what == 0 ? station[1] * S[station[0]] : C[station[0]];
        }
        return sum;
    }

    /** What is asked for: the PLACE of HOLE 0 (0), of HOLE 1 (1), the sum of squares (2). */
    private long nearest(int what) {
        long[] best = null;
        for (int i = 0; i <= stations.get(0).size(); i++) {
            for (int j = 0; j <= stations.get(1).size(); j++) {
                long dx = place(0, i, 0) - place(1, j, 0), dy = place(0, i, 1) - place(1, j, 1);
                if ((i > 0 || j > 0) && (best == null || dx * dx + dy * dy < best[2])) {
                    best = new long[] {i, j, dx * dx + dy * dy};
                }
            }
        }
        return best == null ? refused(NOT) : best[what];
    }

    private long where(int hole) {
        return count(4) == 0 ? NOT : nearest(hole);
    }

    // ---- sheets

    private int found(int number) {
        finding = number;
        return -10 - number;
    }

    private static int length(Object row) {
        return row instanceof byte[] ? ((byte[]) row).length
            : row instanceof short[] ? ((short[]) row).length : ((int[]) row).length;
    }

    private static int form(Object row) {
        return row instanceof byte[] ? 0 : row instanceof short[] ? 1 : 2;
    }

    private static int item(Object row, int i) {
        return row instanceof byte[] ? ((byte[]) row)[i]
            : row instanceof short[] ? ((short[]) row)[i] : ((int[]) row)[i];
    }

    private int sheet(int s, int form, int n) {
        if (out(s, 0, 3) || out(form, 0, 2) || n > 60) {
            return BAD;
        }
        if (n < 0) {
            return found(5);
        }
        sheets[s] = form == 0 ? new byte[n] : form == 1 ? new short[n] : (Object) new int[n];
        return n;
    }

    private int lose(int s) {
        if (out(s, 0, 3)) {
            return BAD;
        }
        if (sheets[s] == null) {
            return found(1);
        }
        int had = length(sheets[s]);
        sheets[s] = null;
        return had;
    }

    private int wrong(int s, int form, int i) {
        return sheets[s] == null ? 1 : form(sheets[s]) != form ? 3 : out(i, 0, length(sheets[s]) - 1) ? 2 : 0;
    }

    private int put(int s, int form, int i, int v) {
        if (out(s, 0, 3) || out(form, 0, 2)) {
            return BAD;
        }
        int wrong = wrong(s, form, i);
        if (wrong != 0) {
            return found(wrong);
        }
        switch (form) {
            case 0: ((byte[]) sheets[s])[i] = (byte) v; break;
            case 1: ((short[]) sheets[s])[i] = (short) v; break;
            default: ((int[]) sheets[s])[i] = v;
        }
        return 1;
    }

    private int get(int s, int form, int i) {
        if (out(s, 0, 3) || out(form, 0, 2)) {
            return LEAST_INT;
        }
        int wrong = wrong(s, form, i);
        if (wrong != 0) {
            found(wrong);
            return LEAST_INT;
        }
        return item(sheets[s], i);
    }

    private int copy(int s, int i, int t, int j, int n) {
        if (out(s, 0, 3) || out(t, 0, 3)) {
            return BAD;
        }
        if (sheets[s] == null || sheets[t] == null) {
            return found(1);
        }
        if (form(sheets[s]) != form(sheets[t])) {
            return found(4);
        }
        boolean below = i < 0 || j < 0 || n < 0;
        if (below || (long) i + n > length(sheets[s]) || (long) j + n > length(sheets[t])) {
            return found(2);
        }
        int[] were = new int[n];
        for (int step = 0; step < n; step++) {
            were[step] = item(sheets[s], i + step);
        }
        for (int step = 0; step < n; step++) {
            put(t, form(sheets[t]), j + step, were[step]);
        }
        return 1;
    }

    private int count(int what) {
        if (out(what, 0, 7)) {
            return BAD;
        }
        int both = stations.get(0).size() + stations.get(1).size();
        return new int[] {depth, shoe, strings.size(), pulls.size(), both, finding, low, high}[what];
    }

    private long digest() {
        List<Integer> all = new ArrayList<>();
        for (int what : new int[] {0, 1, 2, 3, 4, 6, 7}) {
            all.add(count(what));
        }
        for (int i = 0; i < 50; i++) {
            all.add(ground(0, i));
            all.add(ground(1, i));
        }
        for (int hole = 0; hole < 2; hole++) {
            all.add(place(hole, stations.get(hole).size(), 0));
            all.add(place(hole, stations.get(hole).size(), 1));
        }
        long h = 17;
        for (int each : all) {
            h = 31L * h + each;
        }
        return h;
    }
}
