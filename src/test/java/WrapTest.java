import java.math.BigInteger;
import java.util.ArrayList;
import java.util.List;

/** Wrap-around: where the document wants it (FORMS, digest()), and where sums or products of ints must not do it. */
public final class WrapTest {
    public static void main(String[] args) {
        bytes();
        shorts();
        ints();
        groundOfWrappedItems();
        digestInNumbers();
        digestByGreatNumbers();
        nearestBeyondAnInt();
        copiesBeyondAnInt();
        indicesAtTheEndsOfInt();
        greatProducts();
        Check.end();
    }

    /** Puts each number and gets what is due, at the first and at the last item; those between stay 0. */
    private static void lowestBits(String sentence, int form, String[][] rows) {
        for (String[] row : rows) {
            Runs.due(sentence, ("sheet 2 F 3 = 3; put 2 F 0 V = 1; get 2 F 0 = D; put 2 F 2 V = 1; get 2 F 2 = D;"
                + "get 2 F 1 = 0; count 5 = 0").replace("F", "" + form).replace("V", row[0]).replace("D", row[1]));
        }
    }

    private static void bytes() {
        lowestBits("promise 31, the lowest 8 bits", 0, new String[][] {{"127", "127"}, {"128", "-128"},
            {"-128", "-128"}, {"-129", "127"}, {"255", "-1"}, {"256", "0"}, {"257", "1"}, {"-256", "0"}, {"-255", "1"},
            {"32767", "-1"}, {"32768", "0"}, {"65536", "0"}, {"MAX", "-1"}, {"MIN", "0"}, {"305419896", "120"}});
    }

    private static void shorts() {
        lowestBits("promise 31, the lowest 16 bits", 1, new String[][] {{"128", "128"}, {"-129", "-129"},
            {"32767", "32767"}, {"32768", "-32768"}, {"-32768", "-32768"}, {"-32769", "32767"}, {"65535", "-1"},
            {"65536", "0"}, {"65537", "1"},
            {"-65536", "0"}, {"MAX", "-1"}, {"MIN", "0"}, {"305419896", "22136"}});
    }

    private static void ints() {
        lowestBits("promise 31, all 32 bits", 2, new String[][] {{"128", "128"}, {"32768", "32768"}, {"65536", "65536"},
            {"2147483647", "2147483647"}, {"-2147483647", "-2147483647"}, {"-1", "-1"}, {"305419896", "305419896"}});
        Runs.due("promises 31 and 32, the least int as an item is no refusal", "sheet 2 2 1; put 2 2 0 MIN = 1",
            "get 2 2 0 = -2147483648; count 5 = 0");
    }

    private static void groundOfWrappedItems() {
        Runs.due("promise 31, PORE by the lowest bits", "sheet 0 0 2; put 0 0 0 356; ground 0 0 = 100; put 0 0 1 200",
            "ground 0 1 = 100; put 0 0 1 -156; ground 0 1 = 100; put 0 0 1 -129; ground 0 1 = 127; sheet 0 1 2",
            "put 0 1 0 65636; ground 0 0 = 100; put 0 1 1 40000; ground 0 1 = 100; put 0 1 1 -65436; ground 0 1 = 100",
            "sheet 0 2 2; put 0 2 0 65636; ground 0 0 = 0; put 0 2 0 100; put 0 2 1 65636; ground 0 1 = 100");
        Runs.due("promise 31, FRAC by the lowest bits", "sheet 1 0 1; put 1 0 0 300; ground 1 0 = 44; put 1 0 0 128",
            "ground 1 0 = 3000; put 1 0 0 3000; ground 1 0 = 3000; put 1 0 0 2900; ground 1 0 = 84; sheet 1 1 1",
            "put 1 1 0 68436; ground 1 0 = 2900; put 1 1 0 32768; ground 1 0 = 3000");
        Runs.due("promise 33, copies are of what was kept", "sheet 2 0 1; put 2 0 0 300; sheet 3 0 1",
            "copy 2 0 3 0 1 = 1; get 3 0 0 = 44; sheet 1 0 1; copy 3 0 1 0 1 = 1; ground 1 0 = 44");
    }

    private static void digestInNumbers() {
        Runs.due("promise 35, a new object", "digest = -942877355852260417");
        Runs.due("promise 35, a used object", States.USED, "digest = 3326624029603782289");
        Runs.due("promise 35, X below 0 and above", "begin 0 -100000; begin 1 100000; digest = -942877358828260417");
        Runs.due("promise 35, the greatest of everything", "hole 50 50; margins 500 500; sheet 0 2 1; put 0 2 0 3000",
            "sheet 1 2 1; digest = -2535129947865853409");
        Runs.due("promise 35, no FINDING, CAP, SWAB, ENDS or kick in it", "lose 0; sheet 3 2 9; put 3 2 0 7; cap 7",
            "swab 7; ends 7 7 7; digest = -942877355852260417");
    }

    private static void digestByGreatNumbers() {
        Check c = new Check("promise 35, as longs that wrap");
        for (String state : States.ALL) {
            DeepHole x = Runs.behind(state);
            c.due("digest()", x.digest(), wrapped(numbersOf(x)));
        }
    }

    private static List<Integer> numbersOf(DeepHole x) {
        List<Integer> numbers = new ArrayList<>();
        for (int what : new int[] {0, 1, 2, 3, 4, 6, 7}) {
            numbers.add(x.count(what));
        }
        for (int i = 0; i < 50; i++) {
            numbers.add(x.ground(0, i));
            numbers.add(x.ground(1, i));
        }
        for (int hole = 0; hole <= 1; hole++) {
            int last = 0;
            while (last < 40 && x.place(hole, last + 1, 0) != Check.LEAST_INT) {
                last++;
            }
            numbers.add(x.place(hole, last, 0));
            numbers.add(x.place(hole, last, 1));
        }
        return numbers;
    }

    private static long wrapped(List<Integer> numbers) {
        BigInteger h = BigInteger.valueOf(17);
        for (int number : numbers) {
            h = h.multiply(BigInteger.valueOf(31)).add(BigInteger.valueOf(number));
        }
        return h.longValue();
    }

    private static void nearestBeyondAnInt() {
        Runs.due("promise 27, as far apart as can be", "begin 0 -100000; begin 1 100000; station 0 9 -1",
            "nearest = 40026004225; where 0 = 1; where 1 = 0");
        Runs.due("promise 27, 65536 squared is no 0", "begin 1 65536; station 0 0 1; nearest = 4294971521; where 0 = 1",
            "where 1 = 0");
        // 46445 and 46380 squared leave an int, 46315 squared does not.
        Runs.due("promise 28, the nearest, not the one whose square wraps", "begin 1 46380; station 0 9 -1",
            "nearest = 2157138025; station 0 9 1; nearest = 2151104400; station 0 9 1; nearest = 2145079225",
            "where 0 = 3; where 1 = 0");
        Runs.due("promise 27, both full and as far apart as can be", "begin 0 -100000; begin 1 100000",
            Runs.times(40, "station 0 9 -1"), Runs.times(40, "station 1 9 1"), "nearest = 40026004225; where 0 = 0",
            "where 1 = 1");
        Runs.due("promise 27, as deep as can be", "begin 1 50000", Runs.times(40, "station 0 0 1"),
            "nearest = 2500004225; where 0 = 1; place 0 40 1 = 2600");
    }

    private static void copiesBeyondAnInt() {
        Twins.keep("promise 33, a beginning and a number whose sum wraps", States.USED, "copy 0 1 0 0 MAX = INDEX",
            "copy 0 0 0 1 MAX = INDEX", "copy 0 MAX 0 0 1 = INDEX", "copy 0 0 0 MAX 1 = INDEX",
            "copy 0 MAX 0 MAX MAX = INDEX", "copy 0 MAX 0 0 2 = INDEX", "copy 0 4 0 4 MAX = INDEX",
            "copy 0 MIN 0 0 MIN = INDEX", "copy 0 0 0 0 MIN = INDEX", "copy 0 MIN 0 0 4 = INDEX",
            "copy 0 0 0 MIN 4 = INDEX", "copy 0 MIN 0 MIN MAX = INDEX", "copy 0 0 0 0 MAX = INDEX",
            "copy 0 5 0 0 -1 = INDEX", "copy 0 0 0 5 -1 = INDEX", "copy 0 4 0 4 -4 = INDEX");
    }

    private static void indicesAtTheEndsOfInt() {
        Twins.keep("all promises, the ends of int where one more would wrap", States.USED, "shoe 6 MAX = BAD",
            "place 0 MAX 0 = BAD", "place 1 MIN 1 = BAD", "get 0 1 MAX = INDEX", "put 0 1 MIN 7 = INDEX",
            "window MIN MAX 0 = BAD", "window MAX MIN 1 = BAD", "window MAX MAX 0 = BAD", "hole MAX MAX = BAD",
            "hole MIN MIN = BAD", "margins MAX MIN = BAD", "station 0 1 MIN = BAD", "count MIN = BAD",
            "count MAX = BAD", "gas MAX MAX = BAD", "gas MIN MIN = BAD", "kick MAX MAX MAX = BAD",
            "bears MIN MIN = BAD", "pull MIN MIN = BAD", "ends MAX MAX MAX = BAD", "begin MAX MAX = BAD",
            "sheet MAX MAX MAX = BAD", "sheet MIN MIN MIN = BAD", "copy MAX MAX MAX MAX MAX = BAD",
            "copy MIN MIN MIN MIN MIN = BAD", "put MAX MAX MAX MAX = BAD", "get MIN MIN MIN = BAD",
            "speed MAX MAX = BAD", "string MIN MAX = BAD", "plan MIN = BAD", "shoe MAX MAX = BAD", "lightest MIN = BAD",
            "free MAX = BAD", "where MIN = BAD", "lose MIN = BAD", "cap MIN = BAD", "swab MAX = BAD", "trip MIN = BAD",
            "breaks MAX = BAD", "ground MAX MAX = BAD");
    }

    private static void greatProducts() {
        Runs.due("promise 13, the greatest VOLUME", "hole 50 0; kick 1000 3000 3000 = 0; gas 0 0 = 1",
            "gas 0 1 = 150000000; gas 0 2 = 0; gas 49 1 = 1020; gas 1 1 = 50000");
        Runs.due("promise 13, the least pressure at the SHOE", "hole 50 1; kick 1 1 3000; gas 0 4 = -146950",
            "gas 0 5 = 0");
        Runs.due("promise 13, the greatest strength of the SHOE", "hole 50 50; kick 1000 3000 0; gas 50 4 = 150000",
            "gas 50 5 = 0; broken = NONE; sheet 1 2 1; put 1 2 0 2999; broken = 50");
        Runs.due("promise 17, the greatest swab", "hole 50 0; swab 1000; speed 450 50 = 9; speed 449 50 = 8",
            "speed 50 50 = 1; speed 49 50 = 0");
        Runs.due("promise 23, the greatest depths", "ends 9 1000 1000; pull 10 100000; free 0 = 5210526",
            "free 1 = 101000000");
        Runs.due("promise 19, the longest TRIP", "hole 50 0; sheet 0 2 1; put 0 2 0 100; swab 1000; trip 150 = 11781",
            "trip 151 = 11721; lightest 11781 = 150; lightest 11780 = 151; trip 149 = -1050");
    }
}
