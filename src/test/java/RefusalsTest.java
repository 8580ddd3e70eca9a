/**
 * A refused call: where several refusals fit, the first that the promise names is the answer, and nothing else changes;
 * after a FINDING count(5) tells it. Twins.keep asks for all else that an object tells.
 */
public final class RefusalsTest {
    public static void main(String[] args) {
        numbersOfRefusals();
        window();
        casings();
        kicks();
        lightest();
        stuck();
        paths();
        sheetAndLose();
        putAndGet();
        copy();
        latestFinding();
        questionsChangeNothing();
        Check.end();
    }

    private static void numbersOfRefusals() {
        Runs.due("Terms, refusals in numbers", "hole 51 0 = -2; plan 1 = -3; breaks 0 = -1",
            Runs.times(6, "string 1 1"), "string 1 1 = -4");
        Runs.due("Terms, FINDINGS in numbers", "sheet 0 0 3; sheet 1 1 3; lose 3 = -11; put 0 0 3 1 = -12",
            "put 0 1 0 1 = -13; copy 0 0 1 0 1 = -14; sheet 0 0 -1 = -15");
        Runs.due("Terms, a refusal as a long", "gas 1 0 = -9223372036854775806; gas 0 0 = -9223372036854775805",
            "free 2 = -9223372036854775806; free 0 = -9223372036854775805; nearest = -9223372036854775805");
        Runs.due("promises 26 and 32, the least int", "place 2 0 0 = -2147483648; get 4 0 0 = -2147483648",
            "get 0 0 0 = -2147483648; sheet 0 0 1; get 0 1 0 = -2147483648; get 0 0 1 = -2147483648");
    }

    private static void window() {
        Twins.keep("promise 6, BAD, NOT", States.LOCKED, "window 3 2 0 = BAD", "window 49 0 1 = BAD",
            "window 0 49 2 = BAD", "window 0 49 -1 = BAD", "window -1 3 0 = BAD", "window 0 50 1 = BAD",
            "window 0 49 0 = NOT", "window 0 0 1 = NOT", "window 49 49 0 = NOT");
    }

    private static void casings() {
        Twins.keep("promise 7, BAD, FULL", States.FULL, "string 0 5 = BAD", "string 1001 5 = BAD", "string 5 0 = BAD",
            "string 5 51 = BAD", "string 5 5 = FULL");
        for (String before : new String[] {States.NEW, States.LOCKED}) {
            Twins.keep("promise 9, BAD, NOT", before, "plan 0 = BAD", "plan 51 = BAD", "plan 1 = NOT", "plan 50 = NOT");
            Twins.keep("promise 10, BAD of D and i ahead of NOT", before, "shoe 0 0 = BAD", "shoe 51 0 = BAD",
                "shoe 5 -1 = BAD", "shoe 5 MIN = BAD", "shoe 0 -1 = BAD");
            Twins.keep("promise 10, NOT ahead of BAD: it has not that one", before, "shoe 5 0 = NOT", "shoe 5 6 = NOT",
                "shoe 5 MAX = NOT");
        }
        Twins.keep("promise 10, BAD: it has not that one", States.USED, "shoe 1 1 = BAD", "shoe 6 3 = BAD",
            "shoe 6 MAX = BAD", "shoe 51 3 = BAD");
    }

    private static void kicks() {
        for (String before : new String[] {States.NEW, States.FLAT}) {
            Twins.keep("promise 12, BAD, NOT", before, "kick 0 1 1 = BAD", "kick 1001 1 1 = BAD", "kick 1 0 1 = BAD",
                "kick 1 3001 1 = BAD", "kick 1 1 -1 = BAD", "kick 1 1 3001 = BAD", "kick 1 1 1 = NOT",
                "kick 999 200 7 = NOT");
            Twins.keep("promise 15, BAD, NOT", before, "bears 0 1 = BAD", "bears 3001 1 = BAD", "bears 1 -1 = BAD",
                "bears 1 3001 = BAD", "bears 1 1 = NOT");
        }
        for (String before : new String[] {States.NEW, "hole 6 2"}) {
            Twins.keep("promise 13, BAD, NOT", before, "gas -1 0 = BAD", "gas 7 0 = BAD", "gas 0 -1 = BAD",
                "gas 0 6 = BAD", "gas 7 6 = BAD", "gas 0 0 = NOT", "gas 0 5 = NOT");
        }
        Twins.keep("promise 14, NOT", States.NEW, "broken = NOT");
        Twins.keep("promise 14, NOT", "hole 6 2", "broken = NOT");
        Twins.keep("promise 12, a refused kick() leaves the latest", States.USED, "kick 0 999 999 = BAD",
            "kick 999 0 999 = BAD", "kick 999 999 -1 = BAD");
        Twins.keep("promise 11, BAD", States.USED, "cap 0 = BAD", "cap 1001 = BAD");
    }

    private static void lightest() {
        Twins.keep("promise 19, BAD, NOT", States.LOCKED, "lightest -1 = BAD", "lightest 100001 = BAD",
            "lightest 0 = NOT", "lightest 100000 = NOT");
        Twins.keep("promise 17, BAD", States.FLAT, "speed 100 1 = BAD", "speed -1 0 = BAD", "speed 3001 1 = BAD");
        Twins.keep("promises 16 and 18, BAD", States.LOCKED, "swab -1 = BAD", "swab 1001 = BAD", "trip -1 = BAD",
            "trip 3001 = BAD", "trip 3000 = 240");
    }

    private static void stuck() {
        Twins.keep("promise 20, BAD, FULL", States.FULL, "pull 9 5 = BAD", "pull 10001 5 = BAD", "pull 10 -1 = BAD",
            "pull 10 100001 = BAD", "pull 10 5 = FULL");
        for (String before : new String[] {States.NEW, States.LOCKED}) {
            Twins.keep("promise 23, BAD, NOT", before, "free -1 = BAD", "free 2 = BAD", "free 0 = NOT", "free 1 = NOT");
        }
        Twins.keep("promise 22, BAD takes none of the three", States.USED, "ends 10 7 7 = BAD", "ends 7 1001 7 = BAD",
            "ends 7 7 1001 = BAD", "ends 7 7 0 = BAD", "ends -1 7 7 = BAD", "ends 7 -1 7 = BAD");
    }

    private static void paths() {
        Twins.keep("promise 25, BAD, FULL", States.FULL, "station 0 10 1 = BAD", "station 0 -1 1 = BAD",
            "station 1 3 0 = BAD", "station 2 3 1 = BAD", "station 0 3 1 = FULL", "station 1 3 1 = FULL");
        Twins.keep("promise 28, BAD, NOT", States.NEW, "where -1 = BAD", "where 2 = BAD", "where 0 = NOT",
            "where 1 = NOT");
        Twins.keep("promise 27, NOT", "begin 0 5; begin 1 6", "nearest = NOT", "where 0 = NOT", "where 1 = NOT",
            "where 2 = BAD");
        Twins.keep("promise 24, BAD keeps the STATIONS", States.USED, "begin 0 100001 = BAD", "begin 0 -100001 = BAD",
            "begin 1 100001 = BAD", "begin 2 5 = BAD", "begin -1 5 = BAD");
        Twins.keep("promise 26, BAD is no FINDING", States.NEW, "place 2 0 0 = BAD", "place 0 1 0 = BAD",
            "place 0 0 2 = BAD");
        Twins.keep("promises 2 and 3, BAD takes none of both", States.USED, "hole 9 10 = BAD", "hole 9 -1 = BAD",
            "hole 51 1 = BAD", "hole -1 0 = BAD", "margins 9 501 = BAD", "margins 501 9 = BAD", "margins 9 -1 = BAD",
            "margins -1 9 = BAD");
    }

    private static void sheetAndLose() {
        for (String before : new String[] {States.NEW, States.USED}) {
            Twins.keep("promise 29, BAD, SIZE", before, "sheet 4 0 -1 = BAD", "sheet -1 0 -1 = BAD",
                "sheet 0 3 -1 = BAD", "sheet 0 -1 -1 = BAD", "sheet 0 0 61 = BAD", "sheet 4 0 61 = BAD",
                "sheet 0 0 -1 = SIZE", "sheet 1 1 -1 = SIZE", "sheet 2 2 -1 = SIZE", "sheet 3 0 MIN = SIZE");
            Twins.keep("promise 30, BAD, NULL", before, "lose -1 = BAD", "lose 4 = BAD", "lose 3 = NULL");
        }
    }

    private static void putAndGet() {
        String[][] rows = {
            // SHEET 3 is LOST, SHEET 0 is of 4 shorts
            {"-1 0 0", "BAD"}, {"4 3 -1", "BAD"}, {"3 3 0", "BAD"}, {"3 -1 0", "BAD"}, {"0 3 0", "BAD"},
            {"0 3 4", "BAD"}, {"0 -1 -1", "BAD"},
            {"3 0 0", "NULL"}, {"3 1 -1", "NULL"}, {"3 2 60", "NULL"}, {"3 0 MAX", "NULL"},
            {"0 0 0", "CAST"}, {"0 2 0", "CAST"}, {"0 0 4", "CAST"}, {"0 2 -1", "CAST"}, {"1 0 0", "CAST"},
            {"1 1 0", "CAST"}, {"2 1 0", "CAST"}, {"2 2 9", "CAST"},
            {"0 1 4", "INDEX"}, {"0 1 -1", "INDEX"}, {"1 2 4", "INDEX"}, {"2 0 3", "INDEX"}, {"2 0 MIN", "INDEX"}
        };
        for (String[] row : rows) {
            Twins.keep("promise 31, BAD, NULL, CAST, INDEX", States.USED, "put " + row[0] + " 77 = " + row[1]);
            Twins.keep("promise 32, BAD, NULL, CAST, INDEX", States.USED, "get " + row[0] + " = " + row[1]);
        }
        for (int s = 0; s <= 3; s++) {
            Twins.keep("promises 31 and 32, all SHEETS are LOST at first", States.NEW, "put " + s + " 0 0 1 = NULL",
                "get " + s + " 2 0 = NULL");
        }
    }

    private static void copy() {
        // SHEET 0 is of 4 shorts, 1 of 4 ints, 2 of 3 bytes; 3 is LOST.
        Twins.keep("promise 33, BAD ahead of all FINDINGS", States.USED, "copy -1 0 0 0 1 = BAD",
            "copy 4 0 3 0 1 = BAD", "copy 3 0 4 0 1 = BAD", "copy 0 -1 4 0 1 = BAD", "copy 0 0 -1 0 -1 = BAD",
            "copy 4 0 4 0 0 = BAD");
        Twins.keep("promise 33, NULL ahead of STORE and INDEX", States.USED, "copy 3 0 0 0 1 = NULL",
            "copy 0 0 3 0 1 = NULL", "copy 3 -1 0 0 1 = NULL", "copy 0 9 3 0 1 = NULL", "copy 0 0 3 0 -1 = NULL",
            "copy 3 0 3 0 1 = NULL", "copy 3 0 1 0 99 = NULL");
        Twins.keep("promise 33, STORE ahead of INDEX", States.USED, "copy 0 0 1 0 1 = STORE", "copy 1 0 0 0 1 = STORE",
            "copy 0 -1 1 0 1 = STORE", "copy 0 0 1 9 1 = STORE", "copy 2 0 0 0 -1 = STORE", "copy 0 0 2 0 99 = STORE",
            "copy 1 0 2 0 1 = STORE", "copy 2 0 1 0 1 = STORE");
        String two = States.USED + "; sheet 3 1 2; put 3 1 0 31; put 3 1 1 32";
        Twins.keep("promise 33, INDEX: below 0", two, "copy 0 -1 3 0 1 = INDEX", "copy 0 0 3 -1 1 = INDEX",
            "copy 0 0 3 0 -1 = INDEX");
        Twins.keep("promise 33, INDEX: s has not so many", two, "copy 3 0 0 0 3 = INDEX", "copy 3 1 0 0 2 = INDEX",
            "copy 3 2 0 0 1 = INDEX", "copy 3 9 0 0 1 = INDEX");
        Twins.keep("promise 33, INDEX: t has not so many", two, "copy 0 0 3 0 3 = INDEX", "copy 0 0 3 1 2 = INDEX",
            "copy 0 0 3 2 1 = INDEX", "copy 0 0 3 9 1 = INDEX");
        Twins.keep("promise 33, INDEX: nothing comes, not even what there is room for", two, "copy 0 0 3 0 4 = INDEX",
            "copy 0 2 0 0 3 = INDEX", "copy 0 0 0 1 4 = INDEX");
    }

    private static void latestFinding() {
        Runs.due("promise 34, the latest FINDING, 0 before any", "count 5 = 0; sheet 0 0 3; sheet 1 1 3; count 5 = 0",
            "lose 3 = NULL; count 5 = 1; put 0 0 3 1 = INDEX; count 5 = 2; get 0 1 0 = CAST; count 5 = 3",
            "copy 0 0 1 0 1 = STORE; count 5 = 4; sheet 0 0 -1 = SIZE; count 5 = 5; get 3 0 0 = NULL; count 5 = 1");
        Runs.due("promise 34, BAD, NOT and FULL are no FINDINGS", "sheet 0 0 -1 = SIZE; hole 51 0 = BAD",
            "get 4 0 0 = BAD; place 2 0 0 = BAD; plan 1 = NOT; gas 0 0 = NOT; count 8 = BAD",
            Runs.times(6, "string 1 1"), "string 1 1 = FULL; sheet 4 0 -1 = BAD; put 0 3 0 0 = BAD",
            "copy 0 0 4 0 0 = BAD; count 5 = 5");
        Runs.due("promise 34, what is as due leaves it", "lose 0 = NULL; sheet 0 0 3 = 3; put 0 0 0 1 = 1",
            "get 0 0 0 = 1; copy 0 0 0 1 1 = 1; lose 0 = 3; hole 5 2 = 1; count 5 = 1");
        Runs.due("promise 34, the greatest and the least of what", "count -1 = BAD; count 8 = BAD; count MIN = BAD",
            "count MAX = BAD; count 0 = 0; count 7 = 0");
    }

    private static void questionsChangeNothing() {
        String[] questions = {"ground 0 3", "ground 1 3", "breaks 100", "window 0 5 0", "plan 6", "plan 50", "shoe 6 0",
            "shoe 6 1", "gas 3 4", "gas 0 1", "broken", "bears 100 90", "bears 3000 3000", "speed 170 3", "trip 170",
            "lightest 500", "free 0", "free 1", "place 0 1 0", "nearest", "where 0", "where 1", "count 5", "digest"};
        for (String before : States.ALL) {
            Twins.keep("Terms, a question changes nothing", before, questions);
        }
        Twins.keep("promise 32, an answer changes nothing", States.USED, "get 0 1 0 = 100", "get 1 2 2 = 3001",
            "get 2 0 0 = -128");
        Twins.keep("promises 2 and 3, the same again changes nothing", States.USED, "hole 6 2 = 1", "margins 3 4 = 1",
            "cap 20 = 20", "swab 300 = 300", "ends 3 2 90 = 1", "put 0 1 0 100 = 1", "put 0 1 0 65636 = 1",
            "copy 0 0 0 0 4 = 1", "copy 2 0 2 0 3 = 1");
    }
}
