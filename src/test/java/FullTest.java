/** Full: a STRING, a PULL, a STATION, an item more than there may be, and room again afterwards. */
public final class FullTest {
    public static void main(String[] args) {
        strings();
        pulls();
        stations();
        rows();
        Check.end();
    }

    private static void strings() {
        Runs.due("promise 7, 6 STRINGS at most", "string 9 50 = 1; string 8 50 = 2; string 7 50 = 3; string 6 50 = 4",
            "string 5 50 = 5; string 4 50 = 6; string 3 50 = FULL; count 2 = 6; string 3 50 = FULL; bare = 6");
        Runs.due("promise 7, one more does not come in", Runs.times(6, "string 1 1"),
            "string 1 50 = FULL; plan 2 = NOT; plan 1 = 1; string 1 2 = FULL; plan 2 = NOT");
        Runs.due("promise 8, room again", Runs.times(6, "string 1 1"), "bare = 6; string 2 50 = 1; plan 50 = 100",
            Runs.times(5, "string 2 50"), "count 2 = 6; string 2 50 = FULL");
        Twins.keep("promise 7, FULL changes nothing", States.FULL, "string 1 1 = FULL", "string 1000 50 = FULL",
            "string 1 50 = FULL");
    }

    private static void pulls() {
        Runs.due("promise 20, 20 PULLS at most", Runs.times(19, "pull 10 5"), "count 3 = 19; pull 10 5 = 20",
            "count 3 = 20; pull 10 5 = FULL; count 3 = 20; pull 10000 100000 = FULL; slack = 20");
        Runs.due("promise 20, one more does not come in", Runs.times(20, "pull 10 5"), "pull 10 6 = FULL; free 0 = 50",
            "free 1 = 50");
        Runs.due("promise 20, the twentieth came in", Runs.times(19, "pull 10 5"), "free 0 = 50; pull 10 6 = 20",
            "free 0 = NOT");
        Runs.due("promise 21, room again", Runs.times(20, "pull 10 5"), "slack = 20; pull 10 6 = 1; free 0 = 60",
            Runs.times(19, "pull 10 6"), "pull 10 6 = FULL");
        Twins.keep("promise 20, FULL changes nothing", States.FULL, "pull 10 0 = FULL", "pull 10000 100000 = FULL");
    }

    private static void stations() {
        for (int hole = 0; hole <= 1; hole++) {
            String h = "" + hole;
            Runs.due("promise 25, 40 STATIONS at most", Runs.times(39, "station H 0 1").replace("H", h),
                "count 4 = 39; station H 9 1 = 40; count 4 = 40; station H 9 1 = FULL".replace("H", h),
                "station H 0 -1 = FULL; count 4 = 40".replace("H", h),
                "place H 40 0 = 65; place H 40 1 = 2535; place H 41 0 = BAD; begin H 0 = 40".replace("H", h));
            Runs.due("promise 25, the other HOLE has room of its own", Runs.times(40, "station H 0 1").replace("H", h),
                "station O 0 1 = 1; count 4 = 41; station H 0 1 = FULL".replace("H", h).replace("O", "" + (1 - hole)));
            Runs.due("promise 24, room again", Runs.times(40, "station H 0 1").replace("H", h),
                "begin H 5 = 40; place H 1 0 = BAD; station H 9 1 = 1; place H 1 0 = 70".replace("H", h));
        }
        Runs.due("promise 25, both HOLES full", Runs.times(40, "station 0 0 1"), Runs.times(40, "station 1 0 1"),
            "count 4 = 80; station 0 0 1 = FULL; station 1 0 1 = FULL; begin 0 0 = 40; count 4 = 40",
            "station 1 0 1 = FULL");
        Runs.due("promises 27 and 28, the last STATIONS of full HOLES", "begin 0 -2600; begin 1 2600",
            Runs.times(40, "station 0 9 1"), Runs.times(40, "station 1 9 -1"), "nearest = 0; where 0 = 40",
            "where 1 = 40; place 0 40 0 = 0; place 1 40 0 = 0");
        Twins.keep("promise 25, FULL changes nothing", States.FULL, "station 0 0 1 = FULL", "station 1 9 -1 = FULL");
    }

    private static void rows() {
        StringBuilder run = new StringBuilder("sheet 3 2 60 = 60;");
        for (int i = 0; i < 60; i++) {
            run.append("put 3 2 ").append(i).append(' ').append(1000 + i).append(" = 1;");
        }
        run.append("put 3 2 60 5 = INDEX; sheet 3 2 61 = BAD;");
        for (int i = 0; i < 60; i++) {
            run.append("get 3 2 ").append(i).append(" = ").append(1000 + i).append(';');
        }
        Runs.due("promises 29 to 32, 60 items at most", run.toString());
        Runs.due("promise 33, all 60 items at once", "sheet 2 2 60; put 2 2 0 1; put 2 2 59 2; sheet 3 2 60",
            "copy 2 0 3 0 60 = 1; get 3 2 0 = 1; get 3 2 59 = 2; copy 2 0 3 0 61 = INDEX; copy 2 1 3 0 60 = INDEX",
            "copy 2 0 3 1 60 = INDEX; copy 2 0 3 1 59 = 1; get 3 2 1 = 1; get 3 2 59 = 0; get 3 2 0 = 1");
        Runs.due("promise 33, all 60 items a place on", "sheet 2 2 60; put 2 2 0 1; put 2 2 58 2; copy 2 0 2 1 59 = 1",
            "get 2 2 0 = 1; get 2 2 1 = 1; get 2 2 2 = 0; get 2 2 59 = 2; copy 2 1 2 0 59 = 1; get 2 2 0 = 1",
            "get 2 2 1 = 0; get 2 2 58 = 2; get 2 2 59 = 2");
    }
}
