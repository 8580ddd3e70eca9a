import java.util.ArrayList;
import java.util.List;
import java.util.Random;

/** Long runs of calls drawn by lot (from a fixed seed): each answer of DeepHole against that of Model. */
public final class ModelTest {
    private static final int RUNS = 150, CALLS = 512;
    /** How often a call is drawn, behind its name. */
    private static final Object[][] LOTS = {
        {"hole", 3}, {"margins", 2}, {"ground", 6}, {"breaks", 6}, {"window", 6}, {"string", 5}, {"bare", 1},
        {"plan", 3}, {"shoe", 5}, {"cap", 2}, {"kick", 5}, {"gas", 12}, {"broken", 4}, {"bears", 1}, {"swab", 2},
        {"speed", 5}, {"trip", 4}, {"lightest", 1}, {"pull", 6}, {"slack", 1}, {"ends", 2}, {"free", 6}, {"begin", 1},
        {"station", 10}, {"place", 5}, {"nearest", 2}, {"where", 4}, {"sheet", 3}, {"lose", 1}, {"put", 25},
        {"get", 6}, {"copy", 8}, {"count", 6}, {"digest", 3}, {"layers", 1}
    };

    private final Check check;
    private final Random lot;
    private final DeepHole hole = new DeepHole();
    private final Model model = new Model();
    private final List<String> calls = new ArrayList<>();

    private ModelTest(int run) {
        check = new Check("run " + run);
        lot = new Random(20261116L * 1000 + run);
    }

    public static void main(String[] args) {
        List<String> names = new ArrayList<>();
        for (Object[] row : LOTS) {
            for (int n = 0; n < (Integer) row[1]; n++) {
                names.add((String) row[0]);
            }
        }
        for (int run = 0; run < RUNS; run++) {
            new ModelTest(run).run(names);
        }
        Check.end();
    }

    private void run(List<String> names) {
        while (calls.size() < CALLS) {
            String name = names.get(lot.nextInt(names.size()));
            if (name.equals("layers")) {
                layers();
            } else if (!call(name, arguments(name))) {
                System.out.println(String.join("; ", calls));
                return;
            }
        }
    }

    private boolean call(String name, int... a) {
        String text = Calls.text(name, a);
        calls.add(text);
        long want = model.answer(name, a);
        long got = Calls.answer(hole, name, a);
        check.due(text, got, want);
        return got == want;
    }

    /** Ground that grows heavier downward, with holes in its rows, so that windows, plans and trips come out. */
    private void layers() {
        int form = 1 + lot.nextInt(2);
        int size = lot.nextInt(61);
        int step = 1 + lot.nextInt(20);
        int wide = lot.nextInt(300);
        call("sheet", 0, form, size);
        call("sheet", 1, form, size);
        int pore = lot.nextInt(200);
        for (int i = 0; i < size && calls.size() < CALLS - 2; i += 1 + lot.nextInt(8)) {
            int to = Math.min(size, i + 4);
            for (int k = i; k < to; k++) {
                call("put", 0, form, k, lot.nextInt(6) == 0 ? -1 : pore + lot.nextInt(5));
                call("put", 1, form, k, lot.nextInt(6) == 0 ? 3001 : pore + wide + lot.nextInt(5));
            }
            pore += lot.nextInt(step);
        }
    }

    /** One of a range; now and then its ends, and what lies just beyond them. */
    private int in(int least, int greatest) {
        switch (lot.nextInt(40)) {
            case 0: return least - 1;
            case 1: return greatest + 1;
            case 2: case 3: return least;
            case 4: case 5: return greatest;
            case 6: return lot.nextInt(8) == 0 ? lot.nextInt() : least;
            default: return least + lot.nextInt(greatest - least + 1);
        }
    }

    /** Like in(), but more often small, where most of the ground is. */
    private int mostlyTo(int usual, int least, int greatest) {
        return lot.nextInt(4) == 0 ? in(least, greatest) : least + lot.nextInt(usual);
    }

    private int side() {
        return lot.nextInt(20) == 0 ? in(-1, 1) : lot.nextInt(2) * 2 - 1;
    }

    private int item() {
        return lot.nextInt(5) == 0 ? lot.nextInt() : in(0, 3000);
    }

    private int[] arguments(String name) {
        switch (name) {
            case "hole": return new int[] {in(0, 50), lot.nextInt(2) == 0 ? in(0, 50) : in(0, 8)};
            case "margins": return new int[] {mostlyTo(20, 0, 500), mostlyTo(20, 0, 500)};
            case "ground": return new int[] {in(0, 1), in(0, 49)};
            case "breaks": case "trip": return new int[] {mostlyTo(500, 0, 3000)};
            case "window": return new int[] {in(0, 49), in(0, 49), in(0, 1)};
            case "string": return new int[] {mostlyTo(8, 1, 1000), in(1, 50)};
            case "plan": return new int[] {lot.nextInt(12) == 0 ? in(1, 50) : in(1, 14)};
            case "shoe": return new int[] {lot.nextInt(12) == 0 ? in(1, 50) : in(1, 14), in(0, 4)};
            case "cap": return new int[] {mostlyTo(60, 1, 1000)};
            case "kick": return new int[] {in(1, 1000), mostlyTo(500, 1, 3000), mostlyTo(500, 0, 3000)};
            case "gas": return new int[] {in(0, lot.nextInt(3) == 0 ? 50 : 15), in(0, 5)};
            case "bears": return new int[] {mostlyTo(500, 1, 3000), mostlyTo(500, 0, 3000)};
            case "swab": return new int[] {mostlyTo(200, 0, 1000)};
            case "speed": return new int[] {mostlyTo(500, 0, 3000), in(1, 50)};
            case "lightest": return new int[] {mostlyTo(6000, 0, 100000)};
            case "pull": return new int[] {mostlyTo(200, 10, 10000), mostlyTo(500, 0, 100000)};
            case "ends": return new int[] {in(0, 9), in(0, 1000), in(1, 1000)};
            case "free": case "where": return new int[] {in(0, 1)};
            case "begin": return new int[] {in(0, 1), lot.nextInt(3) == 0 ? in(-100000, 100000) : in(-200, 200)};
            case "station": return new int[] {in(0, 1), in(0, 9), side()};
            case "place": return new int[] {in(0, 1), in(0, 20), in(0, 1)};
            default: return sheetArguments(name);
        }
    }

    private int[] sheetArguments(String name) {
        switch (name) {
            case "sheet": return new int[] {in(0, 3), in(0, 2), in(0, 60)};
            case "lose": return new int[] {in(0, 3)};
            case "put": return new int[] {in(0, 3), in(0, 2), in(0, 59), item()};
            case "get": return new int[] {in(0, 3), in(0, 2), in(0, 59)};
            case "copy": return new int[] {in(0, 3), in(0, 20), in(0, 3), in(0, 20), in(0, 20)};
            case "count": return new int[] {in(0, 7)};
            default: return new int[0];
        }
    }
}
