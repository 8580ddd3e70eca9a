/** Promises 24 to 28: begin, station, place, nearest, where. */
public final class PathsTest {
    private static final int BAD = DeepHole.BAD, NOT = DeepHole.NOT;
    private static final int[] C = {65, 63, 60, 56, 52, 39, 33, 25, 16, 0};
    private static final int[] S = {0, 16, 25, 33, 39, 52, 56, 60, 63, 65};

    public static void main(String[] args) {
        begin();
        station();
        turns();
        place();
        nearest();
        likePlaces();
        farApart();
        Check.end();
    }

    private static void begin() {
        Check c = new Check("promise 24");
        DeepHole x = new DeepHole();
        c.due("begin(0, 100000)", x.begin(0, 100000), 0);
        c.due("begin(1, -100000)", x.begin(1, -100000), 0);
        c.due("X of 0", x.place(0, 0, 0), 100000);
        c.due("X of 1", x.place(1, 0, 0), -100000);
        c.due("Y of 0", x.place(0, 0, 1), 0);
        x.station(0, 1, 1);
        x.station(0, 1, 1);
        x.station(1, 1, 1);
        int[][] wrong = {{-1, 0}, {2, 0}, {0, 100001}, {0, -100001}};
        for (int[] w : wrong) {
            c.due("begin(" + w[0] + ", " + w[1] + ")", x.begin(w[0], w[1]), BAD);
        }
        c.due("all stays", x.count(4), 3);
        c.due("had two", x.begin(0, 7), 2);
        c.due("without STATIONS", x.count(4), 1);
        c.due("PLACE 1 is gone", x.place(0, 1, 0), Check.LEAST_INT);
        x.station(0, 9, -1);
        c.due("it goes on from the new X", x.place(0, 1, 0), 7 - 65);
        c.due("and from Y 0", x.place(0, 1, 1), 0);
    }

    private static void station() {
        Check c = new Check("promise 25");
        DeepHole x = new DeepHole();
        int[][] wrong = {{-1, 0, 1}, {2, 0, 1}, {0, -1, 1}, {0, 10, 1}, {0, 0, 0}, {0, 0, 2}, {0, 0, -2}};
        for (int[] w : wrong) {
            c.due("station(" + w[0] + ", " + w[1] + ", " + w[2] + ")", x.station(w[0], w[1], w[2]), BAD);
        }
        c.due("none yet", x.count(4), 0);
        for (int n = 1; n <= 40; n++) {
            c.due("station " + n, x.station(1, 9, 1), n);
        }
        c.due("one too many", x.station(1, 0, 1), DeepHole.FULL);
        c.due("BAD ahead of FULL", x.station(1, 0, 0), BAD);
        c.due("the last PLACE", x.place(1, 40, 0), 2600);
        c.due("count(4)", x.count(4), 40);
        c.due("the other HOLE has room", x.station(0, 0, 1), 1);
        c.due("count(4) of both", x.count(4), 41);
    }

    private static void turns() {
        Check c = new Check("promise 25, turns");
        for (int turn = 0; turn <= 9; turn++) {
            DeepHole x = new DeepHole();
            x.begin(0, 1000);
            x.station(0, turn, 1);
            x.station(0, turn, -1);
            x.station(0, turn, -1);
            c.due("X to the right by " + turn, x.place(0, 1, 0), 1000 + S[turn]);
            c.due("X and back by " + turn, x.place(0, 2, 0), 1000);
            c.due("X to the left by " + turn, x.place(0, 3, 0), 1000 - S[turn]);
            c.due("Y by " + turn, x.place(0, 1, 1), C[turn]);
            c.due("Y by three " + turn, x.place(0, 3, 1), 3 * C[turn]);
        }
    }

    private static void place() {
        Check c = new Check("promise 26");
        DeepHole x = new DeepHole();
        x.station(0, 3, 1);
        c.due("place(0, 1, 0)", x.place(0, 1, 0), 33);
        c.due("place(0, 1, 1)", x.place(0, 1, 1), 56);
        int[][] wrong = {{-1, 0, 0}, {2, 0, 0}, {0, -1, 0}, {0, 2, 0}, {1, 1, 0}, {0, 0, -1}, {0, 0, 2}, {0, 41, 0},
            {0, Integer.MAX_VALUE, 0}};
        for (int[] w : wrong) {
            c.due("place(" + w[0] + ", " + w[1] + ", " + w[2] + ")", x.place(w[0], w[1], w[2]), Check.LEAST_INT);
        }
        c.due("it is no FINDING", x.count(5), 0);
    }

    private static void nearest() {
        Check c = new Check("promises 27 and 28");
        DeepHole x = new DeepHole();
        c.due("none has a STATION", x.nearest(), Check.LONG_NOT);
        c.due("where(0)", x.where(0), NOT);
        c.due("where(1)", x.where(1), NOT);
        c.due("BAD ahead of NOT", x.where(2), BAD);
        x.begin(1, 10);
        x.station(0, 0, 1);
        c.due("STATION 1 of 0 and the beginning of 1", x.nearest(), 100 + 65 * 65);
        c.due("where(0)", x.where(0), 1);
        c.due("where(1)", x.where(1), 0);
        x.begin(0, 0);
        c.due("none again", x.nearest(), Check.LONG_NOT);
        x.station(1, 0, 1);
        c.due("the beginning of 0 and STATION 1 of 1", x.nearest(), 100 + 65 * 65);
        c.due("where(0)", x.where(0), 0);
        c.due("where(1)", x.where(1), 1);
        x.station(0, 1, 1);
        c.due("both STATIONS", x.nearest(), 36 + 4);
        c.due("where(0)", x.where(0), 1);
        c.due("where(1)", x.where(1), 1);
        c.due("where(-1)", x.where(-1), BAD);
    }

    private static void likePlaces() {
        Check c = new Check("promise 28, like places");
        DeepHole x = new DeepHole();
        x.station(0, 0, 1);
        x.station(0, 0, 1);
        x.station(1, 0, 1);
        x.station(1, 0, 1);
        c.due("the same PLACES", x.nearest(), 0);
        c.due("the least of HOLE 0 behind the beginnings", x.where(0), 1);
        c.due("that of HOLE 1", x.where(1), 1);
        x.begin(0, 0);
        x.begin(1, 0);
        x.station(0, 9, 1);
        x.station(0, 9, -1);
        c.due("back at the beginning", x.nearest(), 0);
        c.due("where(0)", x.where(0), 2);
        c.due("where(1)", x.where(1), 0);
        x.station(1, 9, 1);
        x.station(1, 9, -1);
        c.due("the beginning of HOLE 0 is the least", x.where(0), 0);
        c.due("that of HOLE 1 with it", x.where(1), 2);
        x.begin(0, 0);
        x.begin(1, 0);
        x.station(0, 9, 1);
        x.station(1, 9, -1);
        x.station(1, 9, 1);
        x.station(1, 9, -1);
        x.station(1, 9, 1);
        c.due("the least of HOLE 1 too", x.where(1), 2);
    }

    private static void farApart() {
        Check c = new Check("promise 27, far apart");
        DeepHole x = new DeepHole();
        x.begin(0, -100000);
        x.begin(1, 100000);
        x.station(0, 9, -1);
        c.due("more than an int", x.nearest(), 200065L * 200065L);
        x.station(0, 9, 1);
        c.due("back", x.nearest(), 200000L * 200000L);
        c.due("where(0)", x.where(0), 2);
    }
}
