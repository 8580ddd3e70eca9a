/** Empty: what the calls answer where there is nothing to answer from, at first and after all has gone again. */
public final class EmptyTest {
    public static void main(String[] args) {
        noStrings();
        noPulls();
        noStations();
        noKick();
        noDepth();
        noOpenPiece();
        lostSheets();
        rowsOfNoItems();
        copiesOfNoItems();
        Check.end();
    }

    private static void noStrings() {
        Runs.due("promises 8 to 10, no STRINGS at first", "count 2 = 0; bare = 0; plan 1 = NOT; plan 50 = NOT",
            "shoe 1 0 = NOT; shoe 50 5 = NOT; shoe 50 MAX = NOT");
        Runs.due("promises 8 to 10, no STRINGS behind bare()", "string 5 50; string 4 50; plan 10 = 45; shoe 10 1 = 10",
            "bare = 2; count 2 = 0; plan 10 = NOT; shoe 10 0 = NOT; shoe 10 1 = NOT; bare = 0");
        Runs.due("promise 8, the STRINGS that were do not come back", "string 5 50; string 4 50; bare = 2",
            "string 9 50 = 1; plan 10 = 90; shoe 10 0 = 10; shoe 10 1 = BAD; bare = 1");
        Runs.due("promise 8, bare() takes STRINGS alone", States.USED, "bare = 3; count 0 = 6; count 1 = 2",
            "count 3 = 2; count 4 = 3; count 6 = 3; count 7 = 4; gas 6 0 = 840; free 0 = 45");
    }

    private static void noPulls() {
        Runs.due("promises 21 and 23, no PULLS at first", "count 3 = 0; slack = 0; free 0 = NOT; free 1 = NOT");
        Runs.due("promises 21 and 23, no PULLS behind slack()", "pull 10 5; pull 10 5; free 0 = 50; slack = 2",
            "count 3 = 0; free 0 = NOT; free 1 = NOT; slack = 0");
        Runs.due("promise 21, the PULLS that were do not come back", "pull 10 5; pull 10 900; free 0 = NOT; slack = 2",
            "pull 10 7 = 1; free 0 = 70; free 1 = 70; slack = 1");
        Runs.due("promise 21, slack() leaves ENDS and K", "ends 1 1 10; pull 10 5; slack = 1; pull 10 10; free 0 = 8",
            "free 1 = 13");
        Runs.due("promise 21, slack() takes PULLS alone", States.USED, "slack = 2; count 0 = 6; count 1 = 2",
            "count 2 = 3; count 4 = 3; plan 6 = 29; gas 6 0 = 840");
    }

    private static void noStations() {
        Runs.due("promises 24 to 28, no STATIONS at first", "count 4 = 0; nearest = NOT; where 0 = NOT; where 1 = NOT",
            "place 0 0 0 = 0; place 1 0 1 = 0; place 0 1 0 = BAD; place 1 1 1 = BAD; begin 0 0 = 0; begin 1 0 = 0");
        Runs.due("promise 27, no STATIONS, far apart", "begin 0 5; begin 1 -5; nearest = NOT; where 0 = NOT",
            "where 1 = NOT");
        Runs.due("promises 24 to 28, no STATIONS behind begin()", "station 0 1 1; station 1 1 1; station 1 1 1",
            "nearest = 0; begin 0 3 = 1; begin 1 4 = 2; count 4 = 0; nearest = NOT; where 0 = NOT; where 1 = NOT",
            "place 0 1 0 = BAD; place 0 0 0 = 3; place 1 0 0 = 4; place 1 0 1 = 0; begin 1 0 = 0");
        Runs.due("promise 27, HOLE 0 alone has none", "begin 1 7; station 1 0 1; nearest = 4274; where 0 = 0",
            "where 1 = 1");
        Runs.due("promise 27, HOLE 1 alone has none", "begin 0 7; station 0 0 1; nearest = 4274; where 0 = 1",
            "where 1 = 0");
        Runs.due("promise 24, the other HOLE keeps its own", "begin 0 7; station 0 0 1; station 1 0 1; begin 1 9 = 1",
            "count 4 = 1; place 0 1 0 = 7; place 0 1 1 = 65; begin 0 7 = 1; count 4 = 0");
        Runs.due("Terms, without both beginnings", "station 0 0 1; nearest = 4225; where 0 = 1; where 1 = 0",
            "station 1 9 1; where 0 = 0; where 1 = 1");
    }

    private static void noKick() {
        Runs.due("promises 13 and 14, no kick() at first", "gas 0 0 = NOT; gas 0 5 = NOT; broken = NOT; hole 6 2",
            "gas 0 0 = NOT; gas 6 5 = NOT; broken = NOT");
        Runs.due("promises 13 and 14, a refused kick() is none", "kick 1 1 1 = NOT; hole 6 2; kick 0 1 1 = BAD",
            "kick 1 3001 1 = BAD; kick 1 1 3001 = BAD; gas 0 0 = NOT; broken = NOT");
        Runs.due("promises 13 and 14, bears() is none", "hole 6 2; bears 100 90 = 1000; gas 6 0 = NOT; broken = NOT");
        Runs.due("promise 13, the least kick() is one", "hole 1 0; kick 1 1 0 = 1; gas 1 0 = 1; gas 0 1 = 1",
            "broken = NONE");
    }

    private static void noDepth() {
        Runs.due("Terms, DEPTH is 0 at first", "count 0 = 0; count 1 = 0; breaks 0 = NONE; breaks 3000 = NONE");
        Runs.due("promise 2, the SHOE of DEPTH 0", "hole 0 0 = 1; hole 0 1 = BAD; hole 0 -1 = BAD");
        Runs.due("promises 12 and 15, d is 0", "kick 1 1 1 = NOT; kick 1000 3000 3000 = NOT; bears 1 0 = NOT",
            "bears 3000 3000 = NOT");
        Runs.due("promise 17, b is 1 to d, d being 0", "speed 100 0 = BAD; speed 100 1 = BAD; speed 100 -1 = BAD");
        Runs.due("promises 18 and 19, a TRIP of nothing", "trip 0 = 0; trip 3000 = 0; lightest 0 = 0",
            "lightest 100000 = 0; margins 500 500; lightest 0 = 0; sheet 0 2 1; put 0 2 0 3000; trip 0 = 0",
            "lightest 0 = 0");
        Runs.due("promises 13 and 14, DEPTH 0 behind a kick()", States.FLAT, "gas 0 0 = 1; gas 0 1 = 0; gas 0 2 = 0",
            "gas 0 3 = 1; gas 0 4 = 1; gas 0 5 = 0; gas 1 0 = BAD; gas -1 0 = BAD; broken = NONE; kick 1 1 1 = NOT",
            "gas 0 1 = 0; hole 6 2; gas 6 0 = 840; gas 6 1 = 50");
        Runs.due("promises 4, 6, 9, what has not to do with DEPTH", "string 5 50; plan 50 = 250; window 0 49 1 = 3000",
            "ground 1 49 = 3000");
        Runs.due("promise 2, DEPTH 0 again", "hole 50 50; hole 0 0 = 1; count 0 = 0; count 1 = 0; trip 0 = 0",
            "speed 0 1 = BAD");
    }

    private static void noOpenPiece() {
        String heavy = "sheet 0 2 1; put 0 2 0 3000; sheet 1 2 1; hole 5 5;";
        Runs.due("promise 5, no OPEN PIECE", heavy, "breaks 0 = NONE; breaks 1500 = NONE; breaks 3000 = NONE",
            "breaks 3001 = BAD");
        Runs.due("promise 17, no OPEN PIECE: every SPEED is SAFE", heavy, "swab 1000; speed 0 5 = 9; speed 0 1 = 9",
            "speed 3000 5 = 9; speed 0 6 = BAD");
        Runs.due("promise 18, no OPEN PIECE", heavy, "trip 0 = 200; trip 3000 = 200");
        Runs.due("promise 19, no OPEN PIECE: every MUD HOLDS all", heavy, "lightest 200 = 0; lightest 199 = NOT",
            "margins 500 500; lightest 200 = 0");
        Runs.due("promise 12, no OPEN PIECE", heavy, "kick 10 100 0 = 5; gas 5 4 = 500; gas 5 5 = 1; broken = 5",
            "bears 100 0 = 0");
        Runs.due("Terms, one OPEN PIECE", heavy, "hole 5 4; breaks 2999 = 4; breaks 3000 = 4; speed 2999 5 = 0",
            "trip 2999 = -1005; lightest 200 = NOT");
    }

    private static void lostSheets() {
        for (int s = 0; s <= 3; s++) {
            Runs.due("promises 30 to 33, a LOST SHEET", ("lose S = NULL; count 5 = 1; put S 0 0 0 = NULL;"
                + "put S 1 0 0 = NULL; put S 2 -1 0 = NULL;"
                + "get S 0 0 = NULL; count 5 = 1; copy S 0 S 0 0 = NULL; copy S 0 S 0 1 = NULL").replace("S", "" + s));
            Runs.due("promise 30, LOST again", ("sheet S 1 9 = 9; put S 1 8 5 = 1; lose S = 9; lose S = NULL;"
                + "put S 1 8 5 = NULL; get S 1 8 = NULL; count 5 = 1; copy S 0 S 0 0 = NULL").replace("S", "" + s));
            Runs.due("promise 29, a new row behind a LOST one", ("sheet S 2 3 = 3; put S 2 2 5 = 1; lose S = 3;"
                + "sheet S 2 3 = 3; get S 2 0 = 0; get S 2 2 = 0").replace("S", "" + s));
        }
        Runs.due("promise 33, one of two is LOST", "sheet 2 1 3; copy 2 0 3 0 1 = NULL; copy 3 0 2 0 1 = NULL",
            "copy 2 0 3 0 0 = NULL; copy 3 0 2 0 0 = NULL");
        Runs.due("Terms, PORE of a LOST SHEET", "ground 0 0 = 0; ground 0 49 = 0; sheet 0 2 1; put 0 2 0 70",
            "ground 0 49 = 70; lose 0 = 1; ground 0 0 = 0; ground 0 49 = 0");
        Runs.due("Terms, FRAC of a LOST SHEET", "ground 1 0 = 3000; ground 1 49 = 3000; sheet 1 2 1; put 1 2 0 70",
            "ground 1 49 = 70; lose 1 = 1; ground 1 0 = 3000; ground 1 49 = 3000");
        Runs.due("promise 30, the other SHEETS stay", States.USED, "lose 1 = 4; ground 0 3 = 150; ground 1 3 = 3000",
            "get 0 1 3 = 150; get 2 0 2 = 5; lose 0 = 4; lose 2 = 3");
    }

    private static void rowsOfNoItems() {
        for (int form = 0; form <= 2; form++) {
            Runs.due("promises 29 to 33, a row of 0 items", ("sheet 2 F 0 = 0; put 2 F 0 1 = INDEX; count 5 = 2;"
                + "put 2 F -1 1 = INDEX;"
                + "get 2 F 0 = INDEX; count 5 = 2; copy 2 0 2 0 0 = 1; copy 2 0 2 0 1 = INDEX; copy 2 1 2 0 0 = INDEX;"
                + "lose 2 = 0; lose 2 = NULL").replace("F", "" + form));
            int other = (form + 1) % 3;
            Runs.due("promises 31 and 32, a row of 0 items has a FORM", ("sheet 2 F 0 = 0; put 2 O 0 1 = CAST;"
                + "get 2 O 0 = CAST; count 5 = 3").replace("F", "" + form).replace("O", "" + other));
        }
        Runs.due("Terms, PORE and FRAC of rows of 0 items", "sheet 0 2 0 = 0; sheet 1 2 0 = 0; ground 0 0 = 0",
            "ground 1 0 = 3000; ground 0 49 = 0; ground 1 49 = 3000");
        Runs.due("promise 29, a row of 0 items in place of another", "sheet 0 2 2; put 0 2 0 5; put 0 2 1 6",
            "sheet 0 2 0 = 0; ground 0 0 = 0; ground 0 1 = 0; get 0 2 0 = INDEX; sheet 0 2 2 = 2; get 0 2 0 = 0",
            "get 0 2 1 = 0");
        Runs.due("Terms, the items of a new row are 0", "sheet 0 2 3; sheet 1 2 3; ground 0 1 = 0; ground 1 1 = 0",
            "get 0 2 2 = 0; window 0 49 0 = 0; window 0 49 1 = 0");
    }

    private static void copiesOfNoItems() {
        Twins.keep("promise 33, a copy of 0 items", States.USED, "copy 0 0 0 0 0 = 1", "copy 0 4 0 4 0 = 1",
            "copy 0 2 0 4 0 = 1", "copy 0 4 0 0 0 = 1", "copy 2 3 2 3 0 = 1");
        Twins.keep("promise 33, a copy of 0 items beyond the end or below 0", States.USED, "copy 0 5 0 0 0 = INDEX",
            "copy 0 0 0 5 0 = INDEX", "copy 0 -1 0 0 0 = INDEX", "copy 0 0 0 -1 0 = INDEX", "copy 0 MAX 0 0 0 = INDEX",
            "copy 0 0 0 MIN 0 = INDEX");
        Twins.keep("promise 33, a copy of 0 items is refused as others are", States.USED, "copy 4 0 0 0 0 = BAD",
            "copy 0 0 -1 0 0 = BAD", "copy 3 0 0 0 0 = NULL", "copy 0 0 3 0 0 = NULL", "copy 0 0 1 0 0 = STORE",
            "copy 1 0 2 0 0 = STORE");
    }
}
