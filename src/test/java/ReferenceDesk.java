import java.math.BigDecimal;
import java.math.RoundingMode;
import java.util.ArrayList;
import java.util.HashMap;
import java.util.List;
import java.util.Map;
import java.util.NoSuchElementException;
import java.util.TreeMap;

/**
 * The document once more, written apart from the class and as near to its words as can be, for
 * RandomRunsTest; it may be slow, and uses the library.
 */
final class ReferenceDesk {
    private static final class Row {
        int kind;
        int[] told;
        int keptClaim;
        int keptPaid;
    }

    private static final class Sheet {
        int owner;
        boolean open = true;
        List<Row> rows = new ArrayList<>();
    }

    private final Map<Integer, Integer> roads = new HashMap<>();
    private final int[] dayRates = new int[6];
    private int kilometreRate = 0;
    private final List<TreeMap<Integer, Integer>> rates = new ArrayList<>();
    private final Map<String, Integer> rules = new HashMap<>();
    private final List<Integer> grades = new ArrayList<>();
    private final List<Sheet> sheets = new ArrayList<>();

    ReferenceDesk() {
        for (int currency = 0; currency < 5; currency++) {
            rates.add(new TreeMap<>());
        }
    }

    int setRoad(int a, int b, int km) {
        argument(in(a, 0, 11) && in(b, 0, 11) && a != b && in(km, 0, 500));
        Integer before = roads.put(100 * Math.min(a, b) + Math.max(a, b), km);
        return before == null ? 0 : before;
    }

    int setDayRate(int region, int rate) {
        argument(in(region, 0, 5) && in(rate, 0, 100000));
        int before = dayRates[region];
        dayRates[region] = rate;
        return before;
    }

    int setKilometreRate(int rate) {
        argument(in(rate, 0, 500));
        int before = kilometreRate;
        kilometreRate = rate;
        return before;
    }

    int setExchange(int currency, int day, int rate) {
        argument(in(currency, 1, 4) && in(day, 0, 3649) && in(rate, 1, 100000));
        Integer before = rates.get(currency).put(day, rate);
        return before == null ? 0 : before;
    }

    int setLimit(int category, int grade, int limit) {
        argument(in(category, -1, 5) && in(grade, -1, 3) && in(limit, -1, 10000000));
        String key = category + "/" + grade;
        Integer before = limit == -1 ? rules.remove(key) : rules.put(key, limit);
        return before == null ? -1 : before;
    }

    int distance(int a, int b) {
        argument(in(a, 0, 11) && in(b, 0, 11));
        return shortest(a, b);
    }

    int via(int a, int b) {
        argument(in(a, 0, 11) && in(b, 0, 11));
        if (a == b) {
            return -1;
        }
        for (int next = 0; next < 12; next++) {
            int rest = road(a, next) == 0 ? -1 : shortest(next, b);
            if (rest != -1 && road(a, next) + rest == shortest(a, b)) {
                return next;
            }
        }
        return -1;
    }

    int exchange(int currency, int day) {
        argument(in(currency, 0, 4) && in(day, 0, 3649));
        return rate(currency, day);
    }

    int limit(int category, int grade) {
        argument(in(category, 0, 5) && in(grade, 0, 3));
        return rule(category, grade);
    }

    int addEmployee(int grade) {
        argument(in(grade, 0, 3));
        state(grades.size() < 8);
        grades.add(grade);
        return grades.size() - 1;
    }

    int setGrade(int employee, int grade) {
        element(in(employee, 0, grades.size() - 1));
        argument(in(grade, 0, 3));
        return grades.set(employee, grade);
    }

    int openReport(int employee) {
        element(in(employee, 0, grades.size() - 1));
        state(sheets.size() < 16);
        Sheet sheet = new Sheet();
        sheet.owner = employee;
        sheets.add(sheet);
        return sheets.size() - 1;
    }

    int handIn(int report) {
        Sheet sheet = sheet(report);
        state(sheet.open && !sheet.rows.isEmpty());
        int total = 0;
        for (int line = 0; line < sheet.rows.size(); line++) {
            sheet.rows.get(line).keptClaim = claimNow(sheet, line);
            sheet.rows.get(line).keptPaid = paidNow(sheet, line);
            total += sheet.rows.get(line).keptPaid;
        }
        sheet.open = false;
        return total;
    }

    int giveBack(int report) {
        Sheet sheet = sheet(report);
        state(!sheet.open);
        int total = sumOfPaid(sheet, -1);
        sheet.open = true;
        return total;
    }

    int addTrip(int report, int from, int to, int region, int breakfasts, int lunches, int dinners) {
        Sheet sheet = sheet(report);
        argument(from >= 0 && to > from && (long) to - from <= 43200 && to <= 5256000 && in(region, 0, 5)
            && in(breakfasts, 0, 31) && in(lunches, 0, 31) && in(dinners, 0, 31));
        state(sheet.open && sheet.rows.size() < 20);
        return add(sheet, 0, from, to, region, breakfasts, lunches, dinners);
    }

    int addDrive(int report, int a, int b, boolean isReturn) {
        Sheet sheet = sheet(report);
        argument(in(a, 0, 11) && in(b, 0, 11) && a != b);
        state(sheet.open && sheet.rows.size() < 20 && shortest(a, b) != -1);
        return add(sheet, 1, a, b, isReturn ? 2 : 1);
    }

    int addItem(int report, int day, int category, int amount, int currency, int receipt) {
        Sheet sheet = sheet(report);
        argument(in(day, 0, 3649) && in(category, 0, 5) && in(amount, 1, 500000) && in(currency, 0, 4)
            && in(receipt, 0, 999999999));
        state(sheet.open && sheet.rows.size() < 20 && rate(currency, day) != -1);
        return add(sheet, 2, day, category, amount, currency, receipt);
    }

    int removeLine(int report, int line) {
        Sheet sheet = sheet(report);
        row(sheet, line);
        state(sheet.open);
        sheet.rows.remove(line);
        return sheet.rows.size();
    }

    int reports() {
        return sheets.size();
    }

    boolean isOpen(int report) {
        return sheet(report).open;
    }

    int lines(int report) {
        return sheet(report).rows.size();
    }

    int kindOf(int report, int line) {
        return row(sheet(report), line).kind;
    }

    int claimed(int report, int line) {
        row(sheet(report), line);
        return claim(sheet(report), line);
    }

    int paid(int report, int line) {
        row(sheet(report), line);
        return pay(sheet(report), line);
    }

    int total(int report) {
        return sumOfPaid(sheet(report), -1);
    }

    int handedIn(int employee) {
        element(in(employee, 0, grades.size() - 1));
        int sum = 0;
        for (Sheet sheet : sheets) {
            sum += sheet.owner == employee && !sheet.open ? sumOfPaid(sheet, -1) : 0;
        }
        return sum;
    }

    int totalOf(int employee, int category) {
        element(in(employee, 0, grades.size() - 1));
        argument(in(category, 0, 5));
        int sum = 0;
        for (Sheet sheet : sheets) {
            sum += sheet.owner == employee ? sumOfPaid(sheet, category) : 0;
        }
        return sum;
    }

    int duplicateOf(int report, int line) {
        row(sheet(report), line);
        for (int number = 0; number < 100 * report + line; number++) {
            int r = number / 100;
            int l = number % 100;
            if (l < sheets.get(r).rows.size() && like(sheet(report), line, sheets.get(r), l)) {
                return number;
            }
        }
        return -1;
    }

    int duplicates(int report) {
        int count = 0;
        for (int line = 0; line < sheet(report).rows.size(); line++) {
            count += duplicateOf(report, line) == -1 ? 0 : 1;
        }
        return count;
    }

    int editDistance(int one, int other) {
        argument(in(one, 0, 999999999) && in(other, 0, 999999999));
        return edits(String.valueOf(one), String.valueOf(other), new HashMap<>());
    }

    // ---- what the terms say

    private int road(int a, int b) {
        return roads.getOrDefault(100 * Math.min(a, b) + Math.max(a, b), 0);
    }

    private int shortest(int a, int b) {
        int[] away = new int[12];
        java.util.Arrays.fill(away, -1);
        away[a] = 0;
        for (int round = 0; round < 12; round++) {
            for (int from = 0; from < 12; from++) {
                for (int to = 0; to < 12; to++) {
                    int km = road(from, to);
                    if (away[from] != -1 && km > 0 && (away[to] == -1 || away[from] + km < away[to])) {
                        away[to] = away[from] + km;
                    }
                }
            }
        }
        return away[b];
    }

    private int rate(int currency, int day) {
        if (currency == 0) {
            return 10000;
        }
        Map.Entry<Integer, Integer> told = rates.get(currency).floorEntry(day);
        return told == null ? -1 : told.getValue();
    }

    private int rule(int category, int grade) {
        for (String key : List.of(category + "/" + grade, category + "/-1", "-1/" + grade, "-1/-1")) {
            if (rules.containsKey(key)) {
                return rules.get(key);
            }
        }
        return -1;
    }

    private int claim(Sheet sheet, int line) {
        return sheet.open ? claimNow(sheet, line) : sheet.rows.get(line).keptClaim;
    }

    private int pay(Sheet sheet, int line) {
        return sheet.open ? paidNow(sheet, line) : sheet.rows.get(line).keptPaid;
    }

    private int claimNow(Sheet sheet, int line) {
        int[] t = sheet.rows.get(line).told;
        switch (sheet.rows.get(line).kind) {
            case 0:
                return tripClaim(t[0], t[1], dayRates[t[2]], t[3], t[4], t[5]);
            case 1:
                return Math.max(0, shortest(t[0], t[1])) * t[2] * kilometreRate;
            default:
                return BigDecimal.valueOf(t[2]).multiply(BigDecimal.valueOf(rate(t[3], t[0])))
                    .divide(BigDecimal.valueOf(10000), 0, RoundingMode.HALF_UP).intValueExact();
        }
    }

    private static int tripClaim(int from, int to, int rate, int breakfasts, int lunches, int dinners) {
        Map<Integer, Integer> minutes = new HashMap<>();
        for (int minute = from; minute < to; minute++) {
            minutes.merge(minute / 1440, 1, Integer::sum);
        }
        int sum = 0;
        for (int counted : minutes.values()) {
            sum += counted == 1440 ? rate : counted >= 480 ? rate / 2 : 0;
        }
        for (int i = 0; i < breakfasts; i++) {
            sum -= rate / 5;
        }
        for (int i = 0; i < lunches + dinners; i++) {
            sum -= rate * 2 / 5;
        }
        return sum < 0 ? 0 : sum;
    }

    private int paidNow(Sheet sheet, int line) {
        Row row = sheet.rows.get(line);
        int limit = row.kind == 2 ? rule(row.told[1], grades.get(sheet.owner)) : -1;
        if (limit == -1) {
            return claimNow(sheet, line);
        }
        int left = limit;
        for (int i = 0; i < line; i++) {
            Row earlier = sheet.rows.get(i);
            if (earlier.kind == 2 && earlier.told[0] == row.told[0] && earlier.told[1] == row.told[1]) {
                left -= Math.min(claimNow(sheet, i), left);
            }
        }
        return Math.min(claimNow(sheet, line), left);
    }

    private int sumOfPaid(Sheet sheet, int category) {
        int sum = 0;
        for (int line = 0; line < sheet.rows.size(); line++) {
            Row row = sheet.rows.get(line);
            sum += category == -1 || row.kind == 2 && row.told[1] == category ? pay(sheet, line) : 0;
        }
        return sum;
    }

    private boolean like(Sheet sheet, int line, Sheet earlierSheet, int earlierLine) {
        Row row = sheet.rows.get(line);
        Row earlier = earlierSheet.rows.get(earlierLine);
        if (row.kind != 2 || earlier.kind != 2 || sheet.owner != earlierSheet.owner
            || Math.abs(row.told[0] - earlier.told[0]) > 3) {
            return false;
        }
        long one = claim(sheet, line);
        long other = claim(earlierSheet, earlierLine);
        return Math.abs(one - other) * 100 <= Math.max(one, other)
            && edits(String.valueOf(row.told[4]), String.valueOf(earlier.told[4]), new HashMap<>()) <= 1;
    }

    private static int edits(String one, String other, Map<String, Integer> known) {
        if (one.isEmpty() || other.isEmpty()) {
            return one.length() + other.length();
        }
        String key = one + "/" + other;
        if (!known.containsKey(key)) {
            int changed = edits(one.substring(1), other.substring(1), known)
                + (one.charAt(0) == other.charAt(0) ? 0 : 1);
            int out = edits(one.substring(1), other, known) + 1;
            int put = edits(one, other.substring(1), known) + 1;
            known.put(key, Math.min(changed, Math.min(out, put)));
        }
        return known.get(key);
    }

    // ---- helpers

    private static boolean in(int value, int least, int most) {
        return least <= value && value <= most;
    }

    private static void argument(boolean fine) {
        if (!fine) {
            throw new IllegalArgumentException();
        }
    }

    private static void state(boolean fine) {
        if (!fine) {
            throw new IllegalStateException();
        }
    }

    private static void element(boolean fine) {
        if (!fine) {
            throw new NoSuchElementException();
        }
    }

    private Sheet sheet(int report) {
        element(in(report, 0, sheets.size() - 1));
        return sheets.get(report);
    }

    private static Row row(Sheet sheet, int line) {
        if (!in(line, 0, sheet.rows.size() - 1)) {
            throw new IndexOutOfBoundsException();
        }
        return sheet.rows.get(line);
    }

    private static int add(Sheet sheet, int kind, int... told) {
        Row row = new Row();
        row.kind = kind;
        row.told = told;
        sheet.rows.add(row);
        return sheet.rows.size() - 1;
    }
}
