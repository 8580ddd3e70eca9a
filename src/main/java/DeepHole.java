import java.util.Arrays;

/** A deep hole, its ground, casings, kicks, trips, stuck pipe and paths, as the document promises them. */
public final class DeepHole {
    public static final int NONE = -1, BAD = -2, NOT = -3, FULL = -4;

    private static final int PIECES = 50;
    /** No MUD is heavier, and no PORE or FRAC counts that is. */
    private static final int HEAVIEST = 3000;
    private static final int MOST_GAS = 1000;
    private static final int GREATEST_SPEED = 9;
    private static final int HOLES = 2;
    private static final int SHEETS = 4;

    private static final int LEAST_INT = 0x80000000, GREATEST_INT = 0x7fffffff;
    private static final long LEAST_LONG = 0x8000000000000000L, GREATEST_LONG = 0x7fffffffffffffffL;

    private static final int FOUND_NULL = 1, FOUND_INDEX = 2, FOUND_CAST = 3, FOUND_STORE = 4, FOUND_SIZE = 5;

    private final Sheet[] sheets = new Sheet[SHEETS];
    private final Ground ground;
    private final Well well;
    private final Casings casings;
    /** The latest kick(), which gas() and broken() tell of. */
    private final Gas latest;
    /** A kick of its own for bears(), so that the latest one stays. */
    private final Gas trial;
    private final Pulls pulls = new Pulls();
    private final Path[] paths = new Path[HOLES];
    private final Approach approach = new Approach();
    private final Span span = new Span();
    private int finding;

    public DeepHole() {
        for (int s = 0; s < SHEETS; s++) {
            sheets[s] = new Sheet();
        }
        for (int h = 0; h < HOLES; h++) {
            paths[h] = new Path();
        }
        ground = new Ground(sheets[0], sheets[1]);
        well = new Well(ground);
        casings = new Casings(ground);
        latest = new Gas(well);
        trial = new Gas(well);
    }

    // ---- the ground

    public int hole(int d, int s) {
        if (!within(d, 0, PIECES) || !within(s, 0, d)) {
            return BAD;
        }
        well.depth = d;
        well.shoe = s;
        return 1;
    }

    public int margins(int low, int high) {
        if (!within(low, 0, 500) || !within(high, 0, 500)) {
            return BAD;
        }
        ground.low = low;
        ground.high = high;
        return 1;
    }

    public int ground(int what, int i) {
        if (!within(what, 0, 1) || !isPiece(i)) {
            return BAD;
        }
        return what == 0 ? ground.poreOf(i) : ground.fracOf(i);
    }

    public int breaks(int m) {
        return isMud(m) ? well.firstNotHeld(m) : BAD;
    }

    public int window(int i, int j, int end) {
        if (!isPiece(i) || !isPiece(j) || i > j || !within(end, 0, 1)) {
            return BAD;
        }
        ground.widest(span);
        ground.narrow(span, i, j);
        return span.isEmpty() ? NOT : (int) span.end(end);
    }

    // ---- casings

    public int string(int price, int reach) {
        if (!within(price, 1, 1000) || !within(reach, 1, PIECES)) {
            return BAD;
        }
        return casings.add(price, reach) ? casings.number : FULL;
    }

    public int bare() {
        int were = casings.number;
        casings.number = 0;
        return were;
    }

    public int plan(int d) {
        if (!within(d, 1, PIECES)) {
            return BAD;
        }
        return casings.reckon(d) ? casings.costOfPlan() : NOT;
    }

    public int shoe(int d, int i) {
        if (!within(d, 1, PIECES) || i < 0) {
            return BAD;
        }
        if (!casings.reckon(d)) {
            return NOT;
        }
        return i < casings.stringsOfPlan() ? casings.shoeOfPlan(i) : BAD;
    }

    // ---- kicks

    public int cap(int volume) {
        if (!within(volume, 1, 1000)) {
            return BAD;
        }
        int was = well.cap;
        well.cap = volume;
        return was;
    }

    public int kick(int v, int w, int m) {
        if (!within(v, 1, MOST_GAS) || !isWeight(w) || !isMud(m)) {
            return BAD;
        }
        if (well.depth == 0) {
            return NOT;
        }
        latest.comeIn(v, w, m);
        return latest.whereGreatest();
    }

    public long gas(int p, int what) {
        if (!within(p, 0, well.depth) || !within(what, 0, 5)) {
            return refusal(BAD);
        }
        return latest.cameIn() ? latest.measure(p, what) : refusal(NOT);
    }

    public int broken() {
        return latest.cameIn() ? latest.whereBroken(well.strength()) : NOT;
    }

    public int bears(int w, int m) {
        if (!isWeight(w) || !isMud(m)) {
            return BAD;
        }
        return well.depth == 0 ? NOT : trial.greatestBorne(w, m);
    }

    // ---- trips

    public int swab(int v) {
        if (!within(v, 0, 1000)) {
            return BAD;
        }
        int was = well.swab;
        well.swab = v;
        return was;
    }

    public int speed(int m, int b) {
        if (!isMud(m) || !within(b, 1, well.depth)) {
            return BAD;
        }
        return well.safeSpeed(m, b, well.heaviestPore());
    }

    public int trip(int m) {
        return isMud(m) ? well.tripTime(m, well.heaviestPore()) : BAD;
    }

    public int lightest(int time) {
        if (!within(time, 0, 100000)) {
            return BAD;
        }
        ground.widest(span);
        ground.narrow(span, well.shoe, well.depth - 1);
        return span.isEmpty() ? NOT : well.lightestInTime((int) span.least, (int) span.greatest, time);
    }

    // ---- stuck

    public int pull(int f, int e) {
        if (!within(f, 10, 10000) || !within(e, 0, 100000)) {
            return BAD;
        }
        return pulls.add(f, e) ? pulls.number : FULL;
    }

    public int slack() {
        int were = pulls.number;
        pulls.number = 0;
        return were;
    }

    public int ends(int f, int e, int k) {
        if (!within(f, 0, 9) || !within(e, 0, 1000) || !within(k, 1, 1000)) {
            return BAD;
        }
        pulls.forceEnd = f;
        pulls.stretchEnd = e;
        pulls.k = k;
        return 1;
    }

    public long free(int end) {
        if (!within(end, 0, 1)) {
            return refusal(BAD);
        }
        if (pulls.number == 0) {
            return refusal(NOT);
        }
        span.become(0, GREATEST_LONG);
        pulls.narrow(span);
        return span.isEmpty() ? refusal(NOT) : span.end(end);
    }

    // ---- paths

    public int begin(int hole, int x) {
        if (!isHole(hole) || !within(x, -100000, 100000)) {
            return BAD;
        }
        int had = paths[hole].stations;
        paths[hole].beginAt(x);
        return had;
    }

    public int station(int hole, int turn, int side) {
        if (!isHole(hole) || !within(turn, 0, 9) || (side != -1 && side != 1)) {
            return BAD;
        }
        return paths[hole].goOn(turn, side) ? paths[hole].stations : FULL;
    }

    public int place(int hole, int i, int what) {
        if (!isHole(hole) || !within(i, 0, paths[hole].stations) || !within(what, 0, 1)) {
            return LEAST_INT;
        }
        return what == 0 ? paths[hole].xs[i] : paths[hole].ys[i];
    }

    public long nearest() {
        return approach.find(paths[0], paths[1]) ? approach.square : refusal(NOT);
    }

    public int where(int hole) {
        if (!isHole(hole)) {
            return BAD;
        }
        if (!approach.find(paths[0], paths[1])) {
            return NOT;
        }
        return hole == 0 ? approach.first : approach.second;
    }

    // ---- sheets

    public int sheet(int s, int form, int n) {
        if (!isSheet(s) || !isForm(form) || n > Sheet.MOST) {
            return BAD;
        }
        if (n < 0) {
            return found(FOUND_SIZE);
        }
        sheets[s].renew(form, n);
        return n;
    }

    public int lose(int s) {
        if (!isSheet(s)) {
            return BAD;
        }
        if (sheets[s].lost) {
            return found(FOUND_NULL);
        }
        int had = sheets[s].size;
        sheets[s].becomeLost();
        return had;
    }

    public int put(int s, int form, int i, int v) {
        if (!isSheet(s) || !isForm(form)) {
            return BAD;
        }
        int wrong = sheets[s].wrongWith(form, i);
        if (wrong != 0) {
            return found(wrong);
        }
        sheets[s].items[i] = lowestBits(form, v);
        return 1;
    }

    public int get(int s, int form, int i) {
        if (!isSheet(s) || !isForm(form)) {
            return LEAST_INT;
        }
        int wrong = sheets[s].wrongWith(form, i);
        if (wrong != 0) {
            found(wrong);
            return LEAST_INT;
        }
        return sheets[s].items[i];
    }

    public int copy(int s, int i, int t, int j, int n) {
        if (!isSheet(s) || !isSheet(t)) {
            return BAD;
        }
        Sheet from = sheets[s];
        Sheet to = sheets[t];
        if (from.lost || to.lost) {
            return found(FOUND_NULL);
        }
        if (from.form != to.form) {
            return found(FOUND_STORE);
        }
        if (!from.hasRun(i, n) || !to.hasRun(j, n)) {
            return found(FOUND_INDEX);
        }
        System.arraycopy(from.items, i, to.items, j, n);
        return 1;
    }

    public int count(int what) {
        switch (what) {
            case 0: return well.depth;
            case 1: return well.shoe;
            case 2: return casings.number;
            case 3: return pulls.number;
            case 4: return paths[0].stations + paths[1].stations;
            case 5: return finding;
            case 6: return ground.low;
            case 7: return ground.high;
            default: return BAD;
        }
    }

    public long digest() {
        long h = 17;
        for (int what = 0; what <= 7; what++) {
            if (what != 5) {
                h = 31 * h + count(what);
            }
        }
        for (int i = 0; i < PIECES; i++) {
            h = 31 * h + ground.poreOf(i);
            h = 31 * h + ground.fracOf(i);
        }
        for (int hole = 0; hole < HOLES; hole++) {
            Path path = paths[hole];
            h = 31 * h + path.xs[path.stations];
            h = 31 * h + path.ys[path.stations];
        }
        return h;
    }

    // ---- what the calls share

    private static boolean within(int n, int least, int greatest) {
        return n >= least && n <= greatest;
    }

    private static boolean isPiece(int i) {
        return within(i, 0, PIECES - 1);
    }

    private static boolean isMud(int m) {
        return within(m, 0, HEAVIEST);
    }

    private static boolean isWeight(int w) {
        return within(w, 1, HEAVIEST);
    }

    private static boolean isHole(int hole) {
        return within(hole, 0, HOLES - 1);
    }

    private static boolean isSheet(int s) {
        return within(s, 0, SHEETS - 1);
    }

    private static boolean isForm(int form) {
        return within(form, 0, 2);
    }

    /** A long answer may be any small negative number, so refusals stand at the far end of the longs. */
    private static long refusal(int code) {
        return LEAST_LONG - code;
    }

    private int found(int number) {
        finding = number;
        return -10 - number;
    }

    /** All divisors are above 0 by the document's limits; the test keeps that so whatever calls it. */
    private static long cut(long number, long by) {
        return by < 1 ? 0 : number / by;
    }

    private static long roundedUp(long number, long by) {
        return cut(number + by - 1, by);
    }

    private static int lowestBits(int form, int v) {
        switch (form) {
            case 0: return (byte) v;
            case 1: return (short) v;
            default: return v;
        }
    }

    /** All numbers from the least to the greatest; none, if these stand the wrong way round. */
    private static final class Span {
        long least;
        long greatest;

        Span() {
        }

        void become(long from, long to) {
            least = from;
            greatest = to;
        }

        void keep(long from, long to) {
            least = Math.max(least, from);
            greatest = Math.min(greatest, to);
        }

        boolean isEmpty() {
            return least > greatest;
        }

        long end(int which) {
            return which == 0 ? least : greatest;
        }
    }

    /** A SHEET. Its row serves every FORM and every number of items, so that no call makes a new one. */
    private static final class Sheet {
        static final int MOST = 60;

        final int[] items = new int[MOST];
        boolean lost = true;
        int form;
        int size;

        Sheet() {
        }

        void renew(int ofForm, int n) {
            Arrays.fill(items, 0);
            lost = false;
            form = ofForm;
            size = n;
        }

        void becomeLost() {
            lost = true;
            size = 0;
        }

        /** The FINDING that hinders the use of item i as of a FORM; 0: none does. */
        int wrongWith(int asForm, int i) {
            if (lost) {
                return FOUND_NULL;
            }
            if (form != asForm) {
                return FOUND_CAST;
            }
            return within(i, 0, size - 1) ? 0 : FOUND_INDEX;
        }

        /** The room left is asked for instead of i + n, which could wrap. */
        boolean hasRun(int i, int n) {
            return within(i, 0, size) && within(n, 0, size - i);
        }

        /** What stands for PIECE i: its own item or the nearest above it that can count. */
        int standingAt(int i, int otherwise) {
            for (int k = Math.min(i, size - 1); k >= 0; k--) {
                if (within(items[k], 0, HEAVIEST)) {
                    return items[k];
                }
            }
            return otherwise;
        }
    }

    /** PORE and FRAC by depth, and the MARGINS that a MUD keeps from both. */
    private static final class Ground {
        final Sheet pores;
        final Sheet fracs;
        int low;
        int high;

        Ground(Sheet pores, Sheet fracs) {
            this.pores = pores;
            this.fracs = fracs;
        }

        int poreOf(int i) {
            return pores.standingAt(i, 0);
        }

        int fracOf(int i) {
            return fracs.standingAt(i, HEAVIEST);
        }

        boolean holds(int m, int i) {
            return m >= poreOf(i) + low && m <= fracOf(i) - high;
        }

        void widest(Span muds) {
            muds.become(0, HEAVIEST);
        }

        /** Keeps the MUDS that HOLD every PIECE from i to j. With i above j there is no PIECE, and all are kept. */
        void narrow(Span muds, int i, int j) {
            for (int k = i; k <= j; k++) {
                muds.keep(poreOf(k) + low, fracOf(k) - high);
            }
        }
    }

    /** THE HOLE, what it takes to lead gas out of it, and how fast a bit may leave it. */
    private static final class Well {
        /** More than it takes to come from all MUDS to one. */
        private static final int MOST_HALVINGS = 32;

        final Ground ground;
        int depth;
        int shoe;
        int cap = 10;
        int swab = 100;

        Well(Ground ground) {
            this.ground = ground;
        }

        int firstNotHeld(int m) {
            for (int i = shoe; i < depth; i++) {
                if (!ground.holds(m, i)) {
                    return i;
                }
            }
            return NONE;
        }

        /** The pressure that the SHOE just bears; without a SHOE there is nothing to break. */
        long strength() {
            return shoe > 0 ? (long) ground.fracOf(shoe - 1) * shoe : GREATEST_LONG;
        }

        /** Below every MUD where no PIECE is OPEN: then any SPEED is SAFE. */
        int heaviestPore() {
            int heaviest = LEAST_INT;
            for (int i = shoe; i < depth; i++) {
                heaviest = Math.max(heaviest, ground.poreOf(i));
            }
            return heaviest;
        }

        int safeSpeed(int m, int b, int pore) {
            for (int v = GREATEST_SPEED; v >= 1; v--) {
                if (m - swab * v * b / 1000 >= pore) {
                    return v;
                }
            }
            return 0;
        }

        int tripTime(int m, int pore) {
            long time = 0;
            for (int b = depth; b >= 1; b--) {
                int v = safeSpeed(m, b, pore);
                if (v == 0) {
                    return -1000 - b;
                }
                time += roundedUp(360, v);
            }
            return (int) time;
        }

        private boolean isInTime(int m, int pore, int time) {
            int taken = tripTime(m, pore);
            return taken >= 0 && taken <= time;
        }

        /** A heavier MUD is never slower, so the span from light to heavy can be halved. */
        int lightestInTime(int light, int heavy, int time) {
            int pore = heaviestPore();
            if (!isInTime(heavy, pore, time)) {
                return NOT;
            }
            int least = light;
            int enough = heavy;
            for (int step = 0; step < MOST_HALVINGS && least < enough; step++) {
                int middle = (least + enough) / 2;
                if (isInTime(middle, pore, time)) {
                    enough = middle;
                } else {
                    least = middle + 1;
                }
            }
            return enough;
        }
    }

    /** STRINGS and THE PLAN, found from the deepest string up. */
    private static final class Casings {
        static final int MOST = 6;
        private static final int ROW = PIECES + 1;
        /** A worth is cost times this and the number of strings: the least worth is the least cost, then the fewest. */
        private static final int COST = 8;
        private static final int NO_WORTH = GREATEST_INT;

        final Ground ground;
        final Span muds = new Span();
        final int[] prices = new int[MOST];
        final int[] reaches = new int[MOST];
        int number;
        /** The deepest SHOE down to which one MUD HOLDS all from a PIECE on. */
        final int[] deepest = new int[PIECES];
        /** The least worth of the strings from string i on below a SHOE, and the SHOE of string i by it. */
        final int[] worths = new int[MOST * ROW];
        final int[] shoes = new int[MOST * ROW];

        Casings(Ground ground) {
            this.ground = ground;
        }

        boolean add(int price, int reach) {
            if (number >= MOST) {
                return false;
            }
            prices[number] = price;
            reaches[number] = reach;
            number++;
            return true;
        }

        /** Whether there is a PLAN to d; the other questions are about the one found last. */
        boolean reckon(int d) {
            if (number == 0) {
                return false;
            }
            for (int from = 0; from < d; from++) {
                deepest[from] = deepestFrom(from, d);
            }
            for (int i = number - 1; i >= 0; i--) {
                for (int from = 0; from < d; from++) {
                    choose(i, from, d);
                }
            }
            return worths[0] != NO_WORTH;
        }

        private int deepestFrom(int from, int d) {
            ground.widest(muds);
            for (int i = from; i < d; i++) {
                ground.narrow(muds, i, i);
                if (muds.isEmpty()) {
                    return i;
                }
            }
            return d;
        }

        /** Goes from shallow to deep and takes only what is better, so that like ones keep the least SHOE. */
        private void choose(int i, int from, int d) {
            int last = Math.min(deepest[from], reaches[i]);
            int least = NO_WORTH;
            int best = from;
            for (int to = from + 1; to <= last; to++) {
                int below = worthBelow(i, to, d);
                if (below == NO_WORTH) {
                    continue;
                }
                int worth = prices[i] * to * COST + 1 + below;
                if (worth < least) {
                    least = worth;
                    best = to;
                }
            }
            worths[i * ROW + from] = least;
            shoes[i * ROW + from] = best;
        }

        private int worthBelow(int i, int to, int d) {
            if (to == d) {
                return 0;
            }
            return i + 1 < number ? worths[(i + 1) * ROW + to] : NO_WORTH;
        }

        int costOfPlan() {
            return worths[0] / COST;
        }

        int stringsOfPlan() {
            return worths[0] % COST;
        }

        int shoeOfPlan(int i) {
            int at = 0;
            for (int k = 0; k <= i && k < number; k++) {
                at = shoes[k * ROW + at];
            }
            return at;
        }
    }

    /** A KICK, and how it stands with its lower end at some p, by THE HOLE as it is. */
    private static final class Gas {
        final Well well;
        int amount;
        int weight;
        int mud;
        long pressure;
        long volume;
        long height;
        long choke;
        long atShoe;

        Gas(Well well) {
            this.well = well;
        }

        void comeIn(int v, int w, int m) {
            amount = v;
            weight = w;
            mud = m;
        }

        boolean cameIn() {
            return amount > 0;
        }

        private void stand(int p) {
            long bottom = (long) weight * well.depth;
            pressure = Math.max(1, bottom - (long) mud * (well.depth - p));
            volume = cut(amount * bottom, pressure);
            height = Math.min(p, cut(volume, well.cap));
            long top = p - height;
            choke = Math.max(0, pressure - mud * top);
            if (well.shoe <= top) {
                atShoe = choke + (long) mud * well.shoe;
            } else if (well.shoe <= p) {
                atShoe = pressure;
            } else {
                atShoe = bottom - (long) mud * (well.depth - well.shoe);
            }
        }

        private boolean isBrokenAt(int p, long strength) {
            stand(p);
            return atShoe > strength;
        }

        long measure(int p, int what) {
            stand(p);
            switch (what) {
                case 0: return pressure;
                case 1: return volume;
                case 2: return height;
                case 3: return choke;
                case 4: return atShoe;
                default: return atShoe > well.strength() ? 1 : 0;
            }
        }

        int whereGreatest() {
            long greatest = -1;
            int at = 0;
            for (int p = well.depth; p >= 0; p--) {
                stand(p);
                if (volume > greatest) {
                    greatest = volume;
                    at = p;
                }
            }
            return at;
        }

        int whereBroken(long strength) {
            for (int p = well.depth; p >= 0; p--) {
                if (isBrokenAt(p, strength)) {
                    return p;
                }
            }
            return NONE;
        }

        /**
         * Every VOLUME is tried: less gas may break what more does not, where the CHOKE is 0. The p at which the
         * last one broke the SHOE is tried first, since the next one mostly breaks it there too.
         */
        int greatestBorne(int w, int m) {
            long strength = well.strength();
            int p = well.depth;
            for (int v = MOST_GAS; v >= 1; v--) {
                comeIn(v, w, m);
                if (isBrokenAt(p, strength)) {
                    continue;
                }
                int other = whereBroken(strength);
                if (other == NONE) {
                    return v;
                }
                p = other;
            }
            return 0;
        }
    }

    /** PULLS on a stuck pipe, with the ENDS of what they tell. */
    private static final class Pulls {
        static final int MOST = 20;

        final int[] forces = new int[MOST];
        final int[] stretches = new int[MOST];
        int number;
        int forceEnd;
        int stretchEnd;
        int k = 100;

        Pulls() {
        }

        boolean add(int f, int e) {
            if (number >= MOST) {
                return false;
            }
            forces[number] = f;
            stretches[number] = e;
            number++;
            return true;
        }

        void narrow(Span depths) {
            for (int i = 0; i < number; i++) {
                long least = Math.max(0, stretches[i] - stretchEnd);
                long greatest = stretches[i] + stretchEnd;
                depths.keep(cut(least * k, forces[i] + forceEnd), roundedUp(greatest * k, forces[i] - forceEnd));
            }
        }
    }

    /** One of the two HOLES: its PLACES, the beginning being the first. */
    private static final class Path {
        static final int MOST = 40;
        private static final int[] DOWN = {65, 63, 60, 56, 52, 39, 33, 25, 16, 0};
        private static final int[] ASIDE = {0, 16, 25, 33, 39, 52, 56, 60, 63, 65};

        final int[] xs = new int[MOST + 1];
        final int[] ys = new int[MOST + 1];
        int stations;

        Path() {
        }

        void beginAt(int x) {
            xs[0] = x;
            stations = 0;
        }

        boolean goOn(int turn, int side) {
            if (stations >= MOST) {
                return false;
            }
            xs[stations + 1] = xs[stations] + side * ASIDE[turn];
            ys[stations + 1] = ys[stations] + DOWN[turn];
            stations++;
            return true;
        }
    }

    /** How NEAREST two HOLES are, and at which PLACES. */
    private static final class Approach {
        long square;
        int first;
        int second;

        Approach() {
        }

        /** Whether there are two PLACES that count. Takes only what is nearer, so that like ones keep the least. */
        boolean find(Path one, Path other) {
            square = GREATEST_LONG;
            for (int i = 0; i <= one.stations; i++) {
                for (int j = i == 0 ? 1 : 0; j <= other.stations; j++) {
                    long across = one.xs[i] - other.xs[j];
                    long down = one.ys[i] - other.ys[j];
                    long between = across * across + down * down;
                    if (between < square) {
                        square = between;
                        first = i;
                        second = j;
                    }
                }
            }
            return square != GREATEST_LONG;
        }
    }
}
