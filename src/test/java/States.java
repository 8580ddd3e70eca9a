/** Runs that bring a new object into states from which tests go on. */
final class States {
    static final String NEW = "";
    /** Something of everything: SHEETS of each FORM and a LOST one, a kick, a plan of two SHOES, a FINDING. */
    static final String USED = "hole 6 2; margins 3 4; cap 20; swab 300; ends 3 2 90;"
        + "sheet 0 1 4; put 0 1 0 100; put 0 1 1 110; put 0 1 2 -1; put 0 1 3 150;"
        + "sheet 1 2 4; put 1 2 0 140; put 1 2 1 180; put 1 2 2 3001; put 1 2 3 190;"
        + "sheet 2 0 3; put 2 0 0 -128; put 2 0 1 127; put 2 0 2 5;"
        + "string 7 3; string 5 6; string 2 50; kick 50 140 120; pull 100 50; pull 200 104;"
        + "begin 0 -40; begin 1 60; station 0 3 1; station 0 1 -1; station 1 5 -1; put 2 1 0 9";
    /** As many STRINGS, PULLS and STATIONS as there may be. */
    static final String FULL = USED + ";" + Runs.times(3, "string 1 50") + Runs.times(18, "pull 100 51")
        + Runs.times(38, "station 0 2 1") + Runs.times(39, "station 1 4 -1");
    /** DEPTH 0 behind a kick. */
    static final String FLAT = USED + "; hole 0 0";
    /** No OPEN PIECE. */
    static final String CASED = USED + "; hole 6 6";
    /** No MUD HOLDS any PIECE, and nothing is FREE. */
    static final String LOCKED = USED + "; margins 500 500; put 0 1 0 3000; put 1 2 0 0; pull 10 90000";

    static final String[] ALL = {NEW, USED, FULL, FLAT, CASED, LOCKED};

    private States() {
    }
}
