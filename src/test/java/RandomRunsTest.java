import java.lang.reflect.Method;
import java.util.Arrays;
import java.util.Map;
import java.util.Random;

/**
 * Runs of 512 random calls on a new desk, whose answers are due as ReferenceDesk gives them: changes
 * among questions first, questions alone at the end. The seeds are fixed.
 */
public final class RandomRunsTest {
    private static final int RUNS = 1500;
    private static final int CALLS = 512;
    private static final Map<String, Method> OF_DESK = Calls.methodsOf(ExpenseDesk.class);
    private static final Map<String, Method> OF_REFERENCE = Calls.methodsOf(ReferenceDesk.class);
    /** Some stand here more than once: they are asked as much more often. */
    private static final String[] CHANGES = {"setRoad", "setRoad", "setDayRate", "setKilometreRate", "setExchange",
        "setExchange", "setLimit", "setLimit", "addEmployee", "setGrade", "openReport", "openReport", "handIn",
        "giveBack", "addTrip", "addTrip", "addDrive", "addItem", "addItem", "addItem", "addItem", "addItem",
        "addItem", "addItem", "removeLine"};
    private static final String[] QUESTIONS = {"distance", "via", "exchange", "limit", "reports", "isOpen", "lines",
        "kindOf", "claimed", "claimed", "paid", "paid", "total", "handedIn", "totalOf", "duplicateOf", "duplicateOf",
        "duplicates", "editDistance"};

    private final Random random;
    private final ExpenseDesk desk = new ExpenseDesk();
    private final ReferenceDesk reference = new ReferenceDesk();
    private final int wildness;
    private final int sites;
    private final int days;
    private final int categories;
    private final int employees;

    private RandomRunsTest(long seed) {
        random = new Random(seed);
        wildness = new int[] {0, 3, 10, 40}[random.nextInt(4)];
        sites = 2 + random.nextInt(11);
        days = new int[] {3, 12, 3650}[random.nextInt(3)];
        categories = 1 + random.nextInt(6);
        employees = 1 + random.nextInt(8);
    }

    public static void main(String[] args) {
        for (int seed = 0; seed < RUNS; seed++) {
            new RandomRunsTest(seed).run(seed);
        }
        Check.end("RandomRunsTest");
    }

    private void run(int seed) {
        int changes = 40 + random.nextInt(CALLS - 80);
        for (int call = 0; call < CALLS; call++) {
            String name = name(call, changes);
            Object[] a = arguments(name);
            String got = Calls.answer(desk, OF_DESK.get(name), a);
            String want = Calls.answer(reference, OF_REFERENCE.get(name), a);
            Check.due("seed " + seed + ", call " + call + ": " + name + Arrays.toString(a) + " answered " + got
                + " where " + want + " is due", true, got.equals(want));
        }
    }

    private String name(int call, int changes) {
        if (call < employees) {
            return "addEmployee";
        }
        if (call < 2 * employees) {
            return "openReport";
        }
        return call < changes && random.nextInt(4) > 0 ? oneOf(CHANGES) : oneOf(QUESTIONS);
    }

    private String oneOf(String[] names) {
        return names[random.nextInt(names.length)];
    }

    private Object[] arguments(String name) {
        int report = report();
        switch (name) {
            case "setRoad": return new Object[] {site(), site(), length()};
            case "setDayRate": return new Object[] {upTo(0, 5), upTo(0, random.nextBoolean() ? 120 : 100000)};
            case "setKilometreRate": return new Object[] {upTo(0, 500)};
            case "setExchange": return new Object[] {upTo(1, 4), day(), rate()};
            case "setLimit": return new Object[] {upTo(-1, categories - 1), upTo(-1, 3), ceiling()};
            case "addEmployee": return new Object[] {upTo(0, 3)};
            case "setGrade": return new Object[] {employee(), upTo(0, 3)};
            case "addTrip": return trip(report);
            case "addDrive": return new Object[] {report, site(), site(), random.nextBoolean()};
            case "addItem": return new Object[] {report, day(), category(), amount(), currency(), receipt()};
            case "distance": case "via": return new Object[] {site(), site()};
            case "exchange": return new Object[] {upTo(0, 4), day()};
            case "limit": return new Object[] {category(), upTo(0, 3)};
            case "reports": return new Object[] {};
            case "openReport": case "handedIn": return new Object[] {employee()};
            case "totalOf": return new Object[] {employee(), category()};
            case "editDistance": return new Object[] {receipt(), receipt()};
            case "removeLine": case "kindOf": case "claimed": case "paid": case "duplicateOf":
                return new Object[] {report, line(report)};
            default: return new Object[] {report};
        }
    }

    /** From least to most, now and then something at the edges or beyond. */
    private int upTo(int least, int most) {
        if (wildness > 0 && random.nextInt(200) < wildness) {
            int[] wild = {least - 1, most + 1, Integer.MIN_VALUE, Integer.MAX_VALUE, -1, least, most, random.nextInt()};
            return wild[random.nextInt(wild.length)];
        }
        return least + random.nextInt(most - least + 1);
    }

    private int site() {
        return upTo(0, sites - 1);
    }

    private int length() {
        return random.nextInt(6) == 0 ? 0 : upTo(0, random.nextBoolean() ? 20 : 500);
    }

    private int day() {
        return upTo(0, days - 1);
    }

    private int category() {
        return upTo(0, categories - 1);
    }

    private int currency() {
        return random.nextBoolean() ? 0 : upTo(0, 4);
    }

    private int employee() {
        return upTo(0, employees - 1);
    }

    private int report() {
        return upTo(0, Math.max(0, reference.reports() - 1));
    }

    private int line(int report) {
        boolean known = report >= 0 && report < reference.reports();
        return upTo(0, known ? Math.max(0, reference.lines(report) - 1) : 3);
    }

    private int rate() {
        return random.nextBoolean() ? upTo(9900, 10100) : upTo(1, 100000);
    }

    private int ceiling() {
        return random.nextInt(4) == 0 ? ExpenseDesk.NONE : upTo(0, 30000);
    }

    private int amount() {
        return random.nextInt(4) > 0 ? upTo(9850, 10150) : upTo(1, random.nextBoolean() ? 200 : 500000);
    }

    private int receipt() {
        int[] usual = {0, 1, 10, 100, 12, 21, 112, 122, 1234, 1243, 12345, 999999999, 99999999, 100000000};
        int most = random.nextBoolean() ? 30 : 999999999;
        return random.nextInt(3) > 0 ? usual[random.nextInt(usual.length)] : upTo(0, most);
    }

    private Object[] trip(int report) {
        int from = random.nextInt(5) > 0 ? 480 * upTo(0, 12) + upTo(-1, 1) : upTo(0, 5256000);
        int length = random.nextInt(5) > 0 ? 480 * upTo(0, 12) + upTo(-1, 1) : upTo(1, 43200);
        return new Object[] {report, from, from + length, upTo(0, 5), meals(), meals(), meals()};
    }

    private int meals() {
        return random.nextInt(4) > 0 ? upTo(0, 2) : upTo(0, 31);
    }
}
