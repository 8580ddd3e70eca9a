/**
 * Too small, too large: every number that a call takes, at its least and its greatest, just beyond them, and at the
 * ends of int. What lies beyond is BAD and changes nothing.
 */
public final class LimitsTest {
    public static void main(String[] args) {
        groundNumbers();
        casingNumbers();
        kickNumbers();
        tripNumbers();
        stuckNumbers();
        pathNumbers();
        sheetNumbers();
        items();
        muds();
        pricesAndReaches();
        gasNumbers();
        gasMeetsTheShoe();
        speedsAndTimes();
        forcesAndStretches();
        places();
        Check.end();
    }

    /** The number that stands as # in the call goes from least to greatest. */
    private static void number(String sentence, String call, int least, int greatest) {
        String[] beyond = {"" + (least - 1), "" + (greatest + 1), "MIN", "MAX"};
        for (String before : new String[] {States.USED, States.FULL}) {
            for (String end : new String[] {"" + least, "" + greatest}) {
                Twins.likeModel(sentence, before, call.replace("#", end));
                isNotBad(sentence, before, call.replace("#", end));
            }
            for (String number : beyond) {
                Twins.keep(sentence, before, call.replace("#", number) + " = BAD");
            }
        }
    }

    private static void isNotBad(String sentence, String before, String text) {
        Runs.Step call = new Runs.Step(text);
        // get() answers a FINDING of its own as it answers BAD: there is no telling by the answer.
        if (!call.name.equals("get")) {
            long bad = Calls.refusal(call.name, DeepHole.BAD);
            new Check(sentence).holds(call + " is as told", call.on(Runs.behind(before)) != bad);
        }
    }

    private static void groundNumbers() {
        number("promise 2, DEPTH is 0 to 50", "hole # 0", 0, 50);
        number("promise 2, SHOE is 0 to d", "hole 20 #", 0, 20);
        number("promise 2, SHOE is 0 to d, d being 50", "hole 50 #", 0, 50);
        number("promise 2, SHOE is 0 to d, d being 0", "hole 0 #", 0, 0);
        number("promise 3, LOW is 0 to 500", "margins # 7", 0, 500);
        number("promise 3, HIGH is 0 to 500", "margins 7 #", 0, 500);
        number("promise 4, PORE or FRAC", "ground # 3", 0, 1);
        number("promise 4, PIECES 0 to 49, PORE", "ground 0 #", 0, 49);
        number("promise 4, PIECES 0 to 49, FRAC", "ground 1 #", 0, 49);
        number("promise 5, a MUD is 0 to 3000", "breaks #", 0, 3000);
        number("promise 6, PIECE i from 0 on", "window # 49 0", 0, 49);
        number("promise 6, i is not above j", "window # 3 1", 0, 3);
        number("promise 6, PIECE j to 49", "window 0 # 0", 0, 49);
        number("promise 6, j is not below i", "window 3 # 1", 3, 49);
        number("promise 6, the least or the greatest", "window 0 2 #", 0, 1);
    }

    private static void casingNumbers() {
        number("promise 9, D is 1 to 50", "plan #", 1, 50);
        number("promise 10, D is 1 to 50", "shoe # 0", 1, 50);
        for (String n : new String[] {"1", "1000"}) {
            Twins.likeModel("promise 7, PRICE is 1 to 1000", States.USED, "string " + n + " 9");
        }
        for (String n : new String[] {"1", "50"}) {
            Twins.likeModel("promise 7, REACH is 1 to 50", States.USED, "string 9 " + n);
        }
        for (String before : new String[] {States.NEW, States.USED, States.FULL}) {
            Twins.keep("promise 7, PRICE is 1 to 1000", before, "string 0 9 = BAD", "string 1001 9 = BAD",
                "string MIN 9 = BAD", "string MAX 9 = BAD", "string -1 9 = BAD");
            Twins.keep("promise 7, REACH is 1 to 50", before, "string 9 0 = BAD", "string 9 51 = BAD",
                "string 9 MIN = BAD", "string 9 MAX = BAD", "string 9 -1 = BAD");
        }
        Twins.keep("promise 10, THE PLAN has SHOES 0 to k", States.USED, "shoe 6 0 = 1", "shoe 6 1 = 2", "shoe 6 2 = 6",
            "shoe 6 3 = BAD", "shoe 6 -1 = BAD", "shoe 6 MIN = BAD", "shoe 6 MAX = BAD");
    }

    private static void kickNumbers() {
        number("promise 11, CAP is 1 to 1000", "cap #", 1, 1000);
        number("promise 12, VOLUME is 1 to 1000", "kick # 100 90", 1, 1000);
        number("promise 12, a weight is 1 to 3000", "kick 10 # 90", 1, 3000);
        number("promise 12, a MUD is 0 to 3000", "kick 10 100 #", 0, 3000);
        number("promise 13, p is 0 to d", "gas # 0", 0, 6);
        number("promise 13, p is 0 to d", "gas # 5", 0, 6);
        number("promise 13, what is 0 to 5", "gas 3 #", 0, 5);
        number("promise 15, a weight is 1 to 3000", "bears # 90", 1, 3000);
        number("promise 15, a MUD is 0 to 3000", "bears 100 #", 0, 3000);
    }

    private static void tripNumbers() {
        number("promise 16, SWAB is 0 to 1000", "swab #", 0, 1000);
        number("promise 17, a MUD is 0 to 3000", "speed # 3", 0, 3000);
        number("promise 17, b is 1 to d", "speed 170 #", 1, 6);
        number("promise 18, a MUD is 0 to 3000", "trip #", 0, 3000);
        number("promise 19, TIME is 0 to 100000", "lightest #", 0, 100000);
    }

    private static void stuckNumbers() {
        for (String n : new String[] {"10", "10000"}) {
            Twins.likeModel("promise 20, FORCE is 10 to 10000", States.USED, "pull " + n + " 50");
        }
        for (String n : new String[] {"0", "100000"}) {
            Twins.likeModel("promise 20, STRETCH is 0 to 100000", States.USED, "pull 100 " + n);
        }
        for (String before : new String[] {States.NEW, States.USED, States.FULL}) {
            Twins.keep("promise 20, FORCE is 10 to 10000", before, "pull 9 50 = BAD", "pull 10001 50 = BAD",
                "pull 0 50 = BAD", "pull -10 50 = BAD", "pull MIN 50 = BAD", "pull MAX 50 = BAD");
            Twins.keep("promise 20, STRETCH is 0 to 100000", before, "pull 100 -1 = BAD", "pull 100 100001 = BAD",
                "pull 100 MIN = BAD", "pull 100 MAX = BAD");
        }
        number("promise 22, ENDS of FORCES are 0 to 9", "ends # 5 70", 0, 9);
        number("promise 22, ENDS of STRETCHES are 0 to 1000", "ends 4 # 70", 0, 1000);
        number("promise 22, K is 1 to 1000", "ends 4 5 #", 1, 1000);
        number("promise 23, the least or the greatest", "free #", 0, 1);
    }

    private static void pathNumbers() {
        number("promise 24, HOLES 0 and 1", "begin # 5", 0, 1);
        number("promise 24, X is -100000 to 100000", "begin 0 #", -100000, 100000);
        number("promise 24, X is -100000 to 100000", "begin 1 #", -100000, 100000);
        for (String numbers : new String[] {"0 3 1", "1 3 1", "0 0 1", "1 9 1", "0 9 -1"}) {
            Twins.likeModel("promise 25, what is as told", States.USED, "station " + numbers);
        }
        for (String before : new String[] {States.NEW, States.USED, States.FULL}) {
            Twins.keep("promise 25, HOLES 0 and 1", before, "station -1 3 1 = BAD", "station 2 3 1 = BAD",
                "station MIN 3 1 = BAD", "station MAX 3 1 = BAD");
            Twins.keep("promise 25, TURN is 0 to 9", before, "station 0 -1 1 = BAD", "station 0 10 1 = BAD",
                "station 1 MIN 1 = BAD", "station 1 MAX 1 = BAD");
            Twins.keep("promise 25, SIDE is -1 or 1", before, "station 0 3 0 = BAD", "station 0 3 2 = BAD",
                "station 0 3 -2 = BAD", "station 1 3 MIN = BAD", "station 1 3 MAX = BAD");
        }
        number("promise 28, HOLES 0 and 1", "where #", 0, 1);
        Twins.keep("promise 26, HOLES 0 and 1", States.USED, "place 0 1 0 = -7", "place 1 1 0 = 8",
            "place -1 1 0 = BAD", "place 2 1 0 = BAD", "place MIN 1 0 = BAD", "place MAX 1 0 = BAD");
        Twins.keep("promise 26, PLACES 0 to the last", States.USED, "place 0 0 0 = -40", "place 0 2 0 = -23",
            "place 0 -1 0 = BAD", "place 0 3 0 = BAD", "place 1 1 1 = 39", "place 1 2 1 = BAD", "place 0 MIN 0 = BAD",
            "place 0 MAX 0 = BAD");
        Twins.keep("promise 26, X or Y", States.USED, "place 0 1 0 = -7", "place 0 1 1 = 56", "place 0 1 -1 = BAD",
            "place 0 1 2 = BAD", "place 0 1 MIN = BAD", "place 0 1 MAX = BAD");
    }

    private static void sheetNumbers() {
        number("promise 29, SHEETS 0 to 3", "sheet # 1 5", 0, 3);
        number("promise 29, FORMS 0 to 2", "sheet 3 # 5", 0, 2);
        Twins.likeModel("promise 29, 0 items", States.USED, "sheet 3 1 0");
        Twins.likeModel("promise 29, 60 items", States.USED, "sheet 3 1 60");
        Twins.keep("promise 29, above 60 is BAD", States.USED, "sheet 0 1 61 = BAD", "sheet 3 1 61 = BAD",
            "sheet 0 1 MAX = BAD", "sheet 3 2 100 = BAD");
        Twins.keep("promise 29, below 0 is SIZE", States.USED, "sheet 0 1 -1 = SIZE", "sheet 3 1 -1 = SIZE",
            "sheet 0 1 MIN = SIZE", "sheet 3 0 -60 = SIZE");
        number("promise 30, SHEETS 0 to 3", "lose #", 0, 3);
        number("promise 31, SHEETS 0 to 3", "put # 1 1 5", 0, 3);
        number("promise 31, FORMS 0 to 2", "put 1 # 1 5", 0, 2);
        Twins.keep("promise 31, items 0 to the last", States.USED, "put 1 2 -1 5 = INDEX", "put 1 2 4 5 = INDEX",
            "put 1 2 60 5 = INDEX", "put 1 2 MIN 5 = INDEX", "put 1 2 MAX 5 = INDEX");
        number("promise 32, SHEETS 0 to 3", "get # 1 1", 0, 3);
        number("promise 32, FORMS 0 to 2", "get 1 # 1", 0, 2);
        Twins.keep("promise 32, items 0 to the last", States.USED, "get 1 2 0 = 140", "get 1 2 3 = 190",
            "get 1 2 -1 = INDEX", "get 1 2 4 = INDEX", "get 1 2 60 = INDEX", "get 1 2 MIN = INDEX",
            "get 1 2 MAX = INDEX");
        number("promise 33, SHEETS 0 to 3", "copy # 0 0 0 1", 0, 3);
        number("promise 33, SHEETS 0 to 3", "copy 0 0 # 0 1", 0, 3);
        number("promise 34, what is 0 to 7", "count #", 0, 7);
        Runs.due("promises 29 to 32, a row of 60", "sheet 3 1 60 = 60; put 3 1 0 1 = 1; put 3 1 59 2 = 1",
            "put 3 1 60 3 = INDEX; get 3 1 59 = 2; get 3 1 60 = INDEX; lose 3 = 60");
        Runs.due("promises 29 to 32, a row of 1", "sheet 3 1 1 = 1; put 3 1 0 1 = 1; put 3 1 1 2 = INDEX",
            "get 3 1 0 = 1; get 3 1 1 = INDEX; lose 3 = 1");
    }

    /** PORE and FRAC count from 0 to 3000; PIECE 1 stands for what else there is above it. */
    private static void items() {
        for (int s = 0; s <= 1; s++) {
            Runs.due("Terms, an item counts, if it is 0 to 3000", "sheet S 2 2; put S 2 0 7".replace("S", "" + s),
                item(s, "0", 0), item(s, "-1", 7), item(s, "3000", 3000), item(s, "3001", 7), item(s, "1", 1),
                item(s, "2999", 2999), item(s, "MIN", 7), item(s, "MAX", 7));
            Runs.due("Terms, if it is there: a row of 49", row(s, 49),
                "ground " + s + " 48 = 48; ground " + s + " 49 = 48");
            Runs.due("Terms, if it is there: a row of 50", row(s, 50),
                "ground " + s + " 48 = 48; ground " + s + " 49 = 49");
            Runs.due("Terms, if it is there: a row of 60", row(s, 60),
                "ground " + s + " 49 = 49; ground " + s + " 50 = BAD");
        }
        Runs.due("Terms, no PIECE above has one", "sheet 0 2 3; put 0 2 0 -1; put 0 2 1 3001; put 0 2 2 -5",
            "sheet 1 2 3; put 1 2 0 -1; put 1 2 1 3001; put 1 2 2 -5; ground 0 2 = 0; ground 1 2 = 3000",
            "ground 0 49 = 0; ground 1 49 = 3000");
        Runs.due("Terms, the nearest above, not below", "sheet 0 2 4; put 0 2 0 11; put 0 2 1 -1; put 0 2 2 -1",
            "put 0 2 3 44; ground 0 1 = 11; ground 0 2 = 11; ground 0 3 = 44; put 0 2 1 22 = 1; ground 0 2 = 22");
    }

    private static String item(int s, String v, int standing) {
        return "put S 2 1 V = 1; ground S 1 = G; ground S 49 = G".replace("S", "" + s).replace("V", v)
            .replace("G", "" + standing);
    }

    /** Each item is its own number. */
    private static String row(int s, int n) {
        StringBuilder run = new StringBuilder("sheet " + s + " 1 " + n + " = " + n);
        for (int i = 0; i < n; i++) {
            run.append("; put ").append(s).append(" 1 ").append(i).append(' ').append(i);
        }
        return run.toString();
    }

    private static void muds() {
        Runs.due("Terms, not below PORE and LOW", "hole 1 0; sheet 0 2 1; put 0 2 0 100; margins 20 0",
            "breaks 119 = 0; breaks 120 = NONE; window 0 0 0 = 120; breaks 0 = 0");
        Runs.due("Terms, not above FRAC less HIGH", "hole 1 0; sheet 1 2 1; put 1 2 0 100; margins 0 20",
            "breaks 81 = 0; breaks 80 = NONE; window 0 0 1 = 80; breaks 3000 = 0; breaks 0 = NONE");
        Runs.due("Terms, MARGINS are 0 at first", "count 6 = 0; count 7 = 0; window 0 49 0 = 0; window 0 49 1 = 3000");
        Runs.due("Terms, the lightest MUD", "hole 50 0; breaks 0 = NONE; margins 1 0; breaks 0 = 0; breaks 1 = NONE");
        Runs.due("Terms, the heaviest MUD", "hole 50 0; breaks 3000 = NONE; margins 0 1; breaks 3000 = 0",
            "breaks 2999 = NONE");
        Runs.due("Terms, both MARGINS at 500", "hole 50 0; margins 500 500; window 0 49 0 = 500; window 0 49 1 = 2500",
            "breaks 499 = 0; breaks 500 = NONE; breaks 2500 = NONE; breaks 2501 = 0");
        Runs.due("Terms, FRAC less HIGH below 0", "hole 1 0; sheet 1 2 1; window 0 0 0 = 0; window 0 0 1 = 0",
            "breaks 0 = NONE; margins 0 1; window 0 0 0 = NOT; window 0 0 1 = NOT; breaks 0 = 0",
            "lightest 100000 = NOT");
        Runs.due("Terms, PORE and LOW above 3000", "hole 1 0; sheet 0 2 1; put 0 2 0 3000; window 0 0 0 = 3000",
            "window 0 0 1 = 3000; breaks 3000 = NONE; margins 1 0; window 0 0 0 = NOT; window 0 0 1 = NOT",
            "breaks 3000 = 0");
        Runs.due("Terms, one MUD alone", "sheet 0 2 1; put 0 2 0 100; sheet 1 2 1; put 1 2 0 130; margins 10 20",
            "window 0 0 0 = 110; window 0 0 1 = 110; margins 11 20; window 0 0 0 = NOT; margins 10 21",
            "window 0 0 1 = NOT");
        Runs.due("Terms, PIECES s to d - 1 are OPEN", "sheet 0 2 5; put 0 2 0 9; put 0 2 1 0; put 0 2 2 0; put 0 2 3 9",
            "put 0 2 4 9; hole 3 1; breaks 5 = NONE; hole 4 1; breaks 5 = 3; hole 3 0; breaks 5 = 0; hole 5 4",
            "breaks 5 = 4");
    }

    private static void pricesAndReaches() {
        Runs.due("Terms, PRICE 1 and 1000", "string 1 50 = 1; plan 50 = 50; bare = 1; string 1000 50 = 1",
            "plan 50 = 50000");
        Runs.due("Terms, REACH 1", "string 5 1 = 1; plan 1 = 5; shoe 1 0 = 1; plan 2 = NOT; shoe 2 0 = NOT");
        Runs.due("Terms, REACH 49 and 50", "string 5 49 = 1; plan 49 = 245; plan 50 = NOT; bare; string 5 50",
            "plan 50 = 250");
        Runs.due("Terms, each SHOE within its REACH", "string 1 2; string 1 4; plan 4 = 5; plan 5 = NOT; string 1 3",
            "plan 4 = 5");
        Runs.due("Terms, SHOES go deeper and deeper", "string 1 3; string 1 3; string 1 3; string 1 3; plan 3 = 3",
            "shoe 3 0 = 3; sheet 0 2 3; put 0 2 0 1; put 0 2 1 3; put 0 2 2 5; sheet 1 2 3; put 1 2 0 2; put 1 2 1 4",
            "put 1 2 2 6; plan 3 = 6; shoe 3 0 = 1; shoe 3 1 = 2; shoe 3 2 = 3; shoe 3 3 = BAD");
        String ground = apart(45);
        Runs.due("Terms, six strings at the greatest PRICE", ground, Runs.times(6, "string 1000 50"),
            "plan 50 = 285000; shoe 50 0 = 45; shoe 50 1 = 46; shoe 50 2 = 47; shoe 50 3 = 48; shoe 50 4 = 49",
            "shoe 50 5 = 50; shoe 50 6 = BAD");
        Runs.due("Terms, five strings where six are needed", ground, Runs.times(5, "string 1000 50"),
            "plan 50 = NOT; plan 49 = 235000");
        Runs.due("Terms, six strings where seven are needed", apart(44), Runs.times(6, "string 1 50"),
            "plan 50 = NOT; plan 49 = 279");
    }

    /** One MUD HOLDS the PIECES above the first that is told; from there on each PIECE needs one of its own. */
    private static String apart(int first) {
        StringBuilder run = new StringBuilder("sheet 0 2 50; sheet 1 2 50");
        for (int i = 0; i < 50; i++) {
            int mud = i < first ? 100 : 101 + i;
            run.append("; put 0 2 ").append(i).append(' ').append(mud);
            run.append("; put 1 2 ").append(i).append(' ').append(mud);
        }
        return run.append(';').toString();
    }

    private static void gasNumbers() {
        Runs.due("Terms, VOLUME 1 and 1000", "hole 4 0; kick 1 100 0 = 4; gas 4 1 = 1; kick 1000 100 0 = 4",
            "gas 4 1 = 1000; gas 0 1 = 1000");
        Runs.due("Terms, weight 1 and 3000", "hole 50 0; kick 1 1 0; gas 50 0 = 50; kick 1 3000 0; gas 50 0 = 150000");
        Runs.due("Terms, MUD 0 and 3000", "hole 50 0; kick 1 3000 0; gas 0 0 = 150000; kick 1 3000 3000; gas 0 0 = 1",
            "gas 1 0 = 3000");
        Runs.due("Terms, G is 1 at least", "hole 1 0; kick 2 10 8; gas 0 0 = 2; gas 0 1 = 10; kick 2 10 9; gas 0 0 = 1",
            "gas 0 1 = 20; kick 2 10 10; gas 0 0 = 1; gas 0 1 = 20; kick 2 10 11; gas 0 0 = 1; gas 0 1 = 20",
            "kick 2 10 3000; gas 0 0 = 1");
        Runs.due("Terms, VOLUME is cut", "hole 2 0; kick 1 10 7; gas 1 0 = 13; gas 1 1 = 1; kick 2 10 7; gas 1 1 = 3",
            "gas 0 0 = 6; gas 0 1 = 6");
        Runs.due("Terms, HEIGHT is cut", "hole 9 0; kick 19 10 0; gas 9 2 = 1; kick 20 10 0; gas 9 2 = 2; kick 9 10 0",
            "gas 9 2 = 0");
        Runs.due("Terms, HEIGHT is p at most", "hole 9 0; kick 50 10 0; gas 9 2 = 5; gas 6 2 = 5; gas 5 2 = 5",
            "gas 4 2 = 4; gas 0 2 = 0");
        Runs.due("Terms, CAP is 10 at first", "hole 9 0; kick 29 10 0; gas 9 2 = 2; kick 30 10 0; gas 9 2 = 3",
            "cap 9 = 10");
        Runs.due("Terms, CAP 1 and 1000", "hole 50 0; cap 1 = 10; kick 37 10 0; gas 50 2 = 37; cap 1000 = 1",
            "gas 50 2 = 0; kick 1000 10 0; gas 50 2 = 1; kick 999 10 0; gas 50 2 = 0");
        Runs.due("Terms, CHOKE is 0 at least", "hole 10 0; kick 10 9 10; gas 10 0 = 90; gas 10 2 = 1; gas 10 3 = 0",
            "kick 9 10 10; gas 10 2 = 0; gas 10 3 = 0; kick 10 10 10; gas 10 3 = 10; kick 10 8 10; gas 10 3 = 0");
        Runs.due("promise 12, of like ones the greatest p", "hole 5 0; kick 7 10 0 = 5; kick 1 10 1 = 5",
            "kick 1 10 10 = 0; kick 1 10 50 = 4");
    }

    /** A MUD so heavy that CHOKE is 0 and G is 1 tells the three pressures at the SHOE from one another. */
    private static void gasMeetsTheShoe() {
        // B is 1000, and G is 1 with p up to 8. The VOLUME is 10000 there, so that the HEIGHT is p.
        String much = "cap 1000; hole 10 8; kick 10 100 500;";
        Runs.due("Terms, s is above p, gas to the top", much, "gas 7 0 = 1; gas 7 2 = 7; gas 7 4 = 0; gas 0 4 = 0");
        Runs.due("Terms, s is p, gas to the top", much, "gas 8 0 = 1; gas 8 2 = 8; gas 8 4 = 1");
        // The HEIGHT is 3.
        String less = "cap 1000; hole 10 5; kick 3 100 500; ";
        Runs.due("Terms, s is just not above p less HEIGHT", less, "gas 8 2 = 3; gas 8 3 = 0; gas 8 4 = 2500");
        Runs.due("Terms, s is just above p less HEIGHT", less, "gas 7 2 = 3; gas 7 4 = 1");
        Runs.due("Terms, s is just not above p", less, "gas 5 4 = 1");
        Runs.due("Terms, s is just above p", less, "gas 4 4 = -1500");
        Runs.due("Terms, it BREAKS above FRAC times s", less, "sheet 1 2 5; put 1 2 4 500; gas 8 5 = 0; put 1 2 4 499",
            "gas 8 5 = 1; put 1 2 4 0; gas 7 5 = 1; gas 4 5 = 0; broken = 10; hole 10 0; gas 8 5 = 0; gas 4 5 = 0",
            "broken = NONE");
        Runs.due("Terms, FRAC of PIECE s - 1", "hole 2 1; kick 1 100 0; sheet 1 2 2; put 1 2 0 199; put 1 2 1 3000",
            "broken = 2; put 1 2 0 200; broken = NONE; put 1 2 1 0; broken = NONE; hole 2 2; broken = 2");
        Runs.due("promise 15, VOLUMES 1 to 1000", "hole 10 1; bears 100 0 = 1000; sheet 1 2 1; put 1 2 0 999",
            "bears 100 0 = 0; put 1 2 0 1000; bears 100 0 = 1000");
        // With CAP 1 a VOLUME 1 brings 1480 to the SHOE, 185 times 8, and 2 brings 1720, 215 times 8.
        Runs.due("promise 15, 0: not even 1", "hole 20 8; cap 1; sheet 1 2 1; put 1 2 0 184; bears 140 120 = 0",
            "put 1 2 0 185; bears 140 120 = 1; put 1 2 0 214; bears 140 120 = 1; put 1 2 0 215; bears 140 120 = 2");
        // 1000 fills a PIECE, 999 none, wherever it is.
        Runs.due("promise 15, all but the greatest VOLUME", "hole 2 1; cap 1000; sheet 1 2 1; put 1 2 0 2999",
            "bears 1500 1 = 999; put 1 2 0 3000; bears 1500 1 = 1000; put 1 2 0 2998; bears 1500 1 = 0");
    }

    private static void speedsAndTimes() {
        Runs.due("Terms, SWAB is 100 at first", "hole 50 0; speed 45 50 = 9; speed 44 50 = 8; speed 5 50 = 1",
            "speed 4 50 = 0; hole 20 0; speed 2 20 = 1; speed 1 20 = 0; hole 10 0; speed 1 10 = 1; swab 100 = 100");
        String ground = "sheet 0 2 1; put 0 2 0 100; swab 1000; hole 1 0;";
        Runs.due("Terms, SPEED is 1 to 9", ground, "speed 100 1 = 0; speed 101 1 = 1; speed 108 1 = 8; speed 109 1 = 9",
            "speed 110 1 = 9; speed 3000 1 = 9");
        Runs.due("Terms, SWAB 0 and 1000", ground, "hole 50 0; swab 0 = 1000; speed 100 50 = 9; speed 99 50 = 0",
            "swab 1000 = 0; speed 549 50 = 8; speed 550 50 = 9; speed 149 50 = 0; speed 150 50 = 1");
        Runs.due("Terms, SWAB v b by 1000 is cut", ground, "swab 999; speed 100 1 = 1; swab 500; speed 100 1 = 1",
            "swab 499; speed 100 1 = 2");
        Runs.due("Terms, 360 by v is rounded up", ground, "trip 107 = 52; trip 106 = 60; trip 101 = 360",
            "trip 109 = 40");
        Runs.due("promise 18, -1000 less b", ground, "trip 100 = -1001; hole 50 0; trip 149 = -1050; hole 50 50",
            "trip 0 = 2000");
        Runs.due("promise 18, it ends where none is SAFE", "sheet 0 2 1; put 0 2 0 100; swab 0; hole 7 3",
            "trip 99 = -1007; trip 100 = 280");
        Runs.due("promise 19, at most so much TIME", ground, "lightest 360 = 101; lightest 359 = 102",
            "lightest 40 = 109; lightest 39 = NOT; lightest 0 = NOT; lightest 100000 = 101");
        Runs.due("promise 19, the heaviest MUD", "sheet 0 2 1; put 0 2 0 2991; swab 1000; hole 1 0; lightest 40 = 3000",
            "put 0 2 0 2992; lightest 40 = NOT; lightest 45 = 3000; put 0 2 0 3000; lightest 100000 = NOT");
    }

    private static void forcesAndStretches() {
        Runs.due("Terms, ENDS are 0 and K is 100 at first", "pull 100 57; free 0 = 57; free 1 = 57; slack",
            "pull 10000 1; free 0 = 0; free 1 = 1");
        Runs.due("Terms, FORCE 10 and 10000", "pull 10 1; free 0 = 10; free 1 = 10; slack; pull 10000 1; free 0 = 0",
            "free 1 = 1");
        Runs.due("Terms, STRETCH 0 and 100000", "pull 10 0; free 0 = 0; free 1 = 0; slack; pull 10 100000",
            "free 0 = 1000000; free 1 = 1000000");
        Runs.due("Terms, ENDS of FORCES 0 and 9", "pull 10 19; ends 9 0 100; free 0 = 100; free 1 = 1900; ends 0 0 100",
            "free 0 = 190; free 1 = 190");
        Runs.due("Terms, ENDS of STRETCHES 0 and 1000", "pull 10 1000; ends 0 1000 10; free 0 = 0; free 1 = 2000",
            "ends 0 0 10; free 0 = 1000");
        Runs.due("Terms, e less E is 0 at least", "pull 10 999; ends 0 1000 10; free 0 = 0; free 1 = 1999; slack",
            "pull 10 1001; free 0 = 1");
        Runs.due("Terms, K 1 and 1000", "pull 10 10; ends 0 0 1; free 0 = 1; free 1 = 1; ends 0 0 1000; free 0 = 1000",
            "free 1 = 1000");
        Runs.due("Terms, from is cut, to is rounded up", "pull 30 1; free 0 = 3; free 1 = 4; slack; pull 50 1",
            "free 0 = 2; free 1 = 2");
        Runs.due("Terms, in all: they just meet", "ends 0 5 100; pull 100 50; pull 100 60; free 0 = 55; free 1 = 55");
        Runs.due("Terms, in all: they just do not meet", "ends 0 5 100; pull 100 50; pull 100 61; free 0 = NOT",
            "free 1 = NOT");
    }

    private static void places() {
        int[][] turns = {{65, 0}, {63, 16}, {60, 25}, {56, 33}, {52, 39}, {39, 52}, {33, 56}, {25, 60}, {16, 63},
            {0, 65}};
        for (int turn = 0; turn <= 9; turn++) {
            int c = turns[turn][0];
            int s = turns[turn][1];
            Runs.due("Terms, of TURN " + turn + " C and S", "station 1 " + turn + " 1 = 1; place 1 1 0 = " + s,
                "place 1 1 1 = " + c, "station 0 " + turn + " -1 = 1; place 0 1 0 = " + -s, "place 0 1 1 = " + c);
        }
        Runs.due("Terms, TURN 0 and 9", "station 0 0 1 = 1; place 0 1 0 = 0; place 0 1 1 = 65; station 0 9 1 = 2",
            "place 0 2 0 = 65; place 0 2 1 = 65");
        Runs.due("Terms, SIDE -1 and 1", "station 0 4 -1; place 0 1 0 = -39; place 0 1 1 = 52; station 0 4 1",
            "place 0 2 0 = 0; place 0 2 1 = 104");
        Runs.due("Terms, X at its ends", "begin 0 100000 = 0; begin 1 -100000 = 0; place 0 0 0 = 100000",
            "place 1 0 0 = -100000", Runs.times(40, "station 0 9 1"), Runs.times(40, "station 1 9 -1"),
            "place 0 40 0 = 102600; place 1 40 0 = -102600; place 0 40 1 = 0; place 0 41 0 = BAD; place 1 41 0 = BAD");
    }
}
