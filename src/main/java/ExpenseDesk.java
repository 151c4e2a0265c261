import java.util.ArrayList;
import java.util.Arrays;
import java.util.NoSuchElementException;

/**
 * An expense desk: reports of employees with trips, drives and items, limits, near duplicates, and
 * amounts that are kept once a report is handed in. All amounts are cents of the home currency.
 */
public final class ExpenseDesk {
    public static final int NONE = -1;
    public static final int ANY = -1;
    public static final int TRIP = 0, DRIVE = 1, ITEM = 2;

    private static final int SITES = 12;
    private static final int LONGEST_ROAD = 500;
    private static final int REGIONS = 6;
    private static final int HIGHEST_DAY_RATE = 100000;
    private static final int HIGHEST_KILOMETRE_RATE = 500;
    private static final int HOME = 0;
    private static final int CURRENCIES = 5;
    private static final int HIGHEST_EXCHANGE = 100000;
    private static final int DAYS = 3650;
    private static final int MINUTES_OF_DAY = 1440;
    private static final int MINUTES_OF_HALF_RATE = 480;
    private static final int LONGEST_TRIP = 43200;
    private static final int MOST_MEALS = 31;
    private static final int CATEGORIES = 6;
    private static final int GRADES = 4;
    private static final int HIGHEST_LIMIT = 10000000;
    private static final int HIGHEST_AMOUNT = 500000;
    private static final int HIGHEST_RECEIPT = 999999999;
    private static final int RECEIPT_DIGITS = 9;
    private static final int MOST_EMPLOYEES = 8;
    private static final int MOST_REPORTS = 16;
    private static final int MOST_LINES = 20;

    private final Settings settings;
    private final Receipts receipts;
    private final int[] grades;
    private int employeeCount = 0;
    private final ArrayList<Report> allReports;

    public ExpenseDesk() {
        settings = new Settings();
        receipts = new Receipts();
        grades = new int[MOST_EMPLOYEES];
        allReports = new ArrayList<Report>();
    }

    // ---- settings

    public int setRoad(int a, int b, int km) throws IllegalArgumentException {
        checkTwoSites(a, b);
        checkRange(km, 0, LONGEST_ROAD);
        return settings.roads.build(a, b, km);
    }

    public int setDayRate(int region, int rate) throws IllegalArgumentException {
        checkRange(region, 0, REGIONS - 1);
        checkRange(rate, 0, HIGHEST_DAY_RATE);
        int before = settings.dayRates[region];
        settings.dayRates[region] = rate;
        return before;
    }

    public int setKilometreRate(int rate) throws IllegalArgumentException {
        checkRange(rate, 0, HIGHEST_KILOMETRE_RATE);
        int before = settings.kilometreRate;
        settings.kilometreRate = rate;
        return before;
    }

    public int setExchange(int currency, int day, int rate) throws IllegalArgumentException {
        checkRange(currency, HOME + 1, CURRENCIES - 1);
        checkRange(day, 0, DAYS - 1);
        checkRange(rate, 1, HIGHEST_EXCHANGE);
        return settings.currencies[currency].tell(day, rate);
    }

    public int setLimit(int category, int grade, int limit) throws IllegalArgumentException {
        checkRange(category, ANY, CATEGORIES - 1);
        checkRange(grade, ANY, GRADES - 1);
        checkRange(limit, NONE, HIGHEST_LIMIT);
        return settings.rules.put(category, grade, limit);
    }

    public int distance(int a, int b) throws IllegalArgumentException {
        checkRange(a, 0, SITES - 1);
        checkRange(b, 0, SITES - 1);
        return settings.roads.shortestWay(a, b);
    }

    public int via(int a, int b) throws IllegalArgumentException {
        checkRange(a, 0, SITES - 1);
        checkRange(b, 0, SITES - 1);
        return settings.roads.firstSite(a, b);
    }

    public int exchange(int currency, int day) throws IllegalArgumentException {
        checkRange(currency, HOME, CURRENCIES - 1);
        checkRange(day, 0, DAYS - 1);
        return settings.currencies[currency].rateOn(day);
    }

    public int limit(int category, int grade) throws IllegalArgumentException {
        checkRange(category, 0, CATEGORIES - 1);
        checkRange(grade, 0, GRADES - 1);
        return settings.rules.counting(category, grade);
    }

    // ---- employees and reports

    public int addEmployee(int grade) throws IllegalArgumentException, IllegalStateException {
        checkRange(grade, 0, GRADES - 1);
        checkState(employeeCount < MOST_EMPLOYEES);
        int employee = employeeCount;
        grades[employee] = grade;
        employeeCount++;
        return employee;
    }

    public int setGrade(int employee, int grade) throws NoSuchElementException, IllegalArgumentException {
        checkEmployee(employee);
        checkRange(grade, 0, GRADES - 1);
        int before = grades[employee];
        grades[employee] = grade;
        return before;
    }

    public int openReport(int employee) throws NoSuchElementException, IllegalStateException {
        checkEmployee(employee);
        checkState(allReports.size() < MOST_REPORTS);
        allReports.add(new Report(employee));
        return allReports.size() - 1;
    }

    public int handIn(int report) throws NoSuchElementException, IllegalStateException {
        Report handed = reportAt(report);
        checkState(handed.open && handed.lines.size() > 0);
        settle(handed);
        handed.open = false;
        return handed.sum();
    }

    public int giveBack(int report) throws NoSuchElementException, IllegalStateException {
        Report given = reportAt(report);
        checkState(!given.open);
        int kept = given.sum();
        given.open = true;
        return kept;
    }

    // ---- lines

    public int addTrip(int report, int from, int to, int region, int breakfasts, int lunches, int dinners)
            throws NoSuchElementException, IllegalArgumentException, IllegalStateException {
        Report target = reportAt(report);
        checkRange(from, 0, DAYS * MINUTES_OF_DAY - 1);
        checkRange(to, from + 1, Math.min(from + LONGEST_TRIP, DAYS * MINUTES_OF_DAY));
        checkRange(region, 0, REGIONS - 1);
        checkRange(breakfasts, 0, MOST_MEALS);
        checkRange(lunches, 0, MOST_MEALS);
        checkRange(dinners, 0, MOST_MEALS);
        checkState(target.takesLine());
        return target.append(new Trip(from, to, region, breakfasts, lunches + dinners));
    }

    public int addDrive(int report, int a, int b, boolean isReturn)
            throws NoSuchElementException, IllegalArgumentException, IllegalStateException {
        Report target = reportAt(report);
        checkTwoSites(a, b);
        checkState(target.takesLine() && settings.roads.shortestWay(a, b) != NONE);
        return target.append(new Drive(a, b, isReturn));
    }

    public int addItem(int report, int day, int category, int amount, int currency, int receipt)
            throws NoSuchElementException, IllegalArgumentException, IllegalStateException {
        Report target = reportAt(report);
        checkRange(day, 0, DAYS - 1);
        checkRange(category, 0, CATEGORIES - 1);
        checkRange(amount, 1, HIGHEST_AMOUNT);
        checkRange(currency, HOME, CURRENCIES - 1);
        checkRange(receipt, 0, HIGHEST_RECEIPT);
        checkState(target.takesLine() && settings.currencies[currency].rateOn(day) != NONE);
        return target.append(new Item(day, category, amount, currency, receipt));
    }

    public int removeLine(int report, int line)
            throws NoSuchElementException, IndexOutOfBoundsException, IllegalStateException {
        Report target = reportAt(report);
        checkLine(target, line);
        checkState(target.open);
        target.lines.remove(line);
        return target.lines.size();
    }

    // ---- questions about reports

    public int reports() {
        return allReports.size();
    }

    public boolean isOpen(int report) throws NoSuchElementException {
        return reportAt(report).open;
    }

    public int lines(int report) throws NoSuchElementException {
        return reportAt(report).lines.size();
    }

    public int kindOf(int report, int line) throws NoSuchElementException, IndexOutOfBoundsException {
        return settledLine(report, line).kind();
    }

    public int claimed(int report, int line) throws NoSuchElementException, IndexOutOfBoundsException {
        return settledLine(report, line).claim;
    }

    public int paid(int report, int line) throws NoSuchElementException, IndexOutOfBoundsException {
        return settledLine(report, line).payment;
    }

    public int total(int report) throws NoSuchElementException {
        Report asked = reportAt(report);
        settle(asked);
        return asked.sum();
    }

    public int handedIn(int employee) throws NoSuchElementException {
        checkEmployee(employee);
        int sum = 0;
        for (int i = 0; i < allReports.size(); i++) {
            Report report = allReports.get(i);
            if (report.employee == employee && !report.open) {
                sum += report.sum();
            }
        }
        return sum;
    }

    public int totalOf(int employee, int category) throws NoSuchElementException, IllegalArgumentException {
        checkEmployee(employee);
        checkRange(category, 0, CATEGORIES - 1);
        settleAllOf(employee);
        int sum = 0;
        for (int i = 0; i < allReports.size(); i++) {
            Report report = allReports.get(i);
            if (report.employee == employee) {
                sum += report.sumOf(category);
            }
        }
        return sum;
    }

    public int duplicateOf(int report, int line) throws NoSuchElementException, IndexOutOfBoundsException {
        Report asked = reportAt(report);
        checkLine(asked, line);
        settleAllOf(asked.employee);
        return firstLike(report, line);
    }

    public int duplicates(int report) throws NoSuchElementException {
        Report asked = reportAt(report);
        settleAllOf(asked.employee);
        int count = 0;
        for (int line = 0; line < asked.lines.size(); line++) {
            if (firstLike(report, line) != NONE) {
                count++;
            }
        }
        return count;
    }

    public int editDistance(int one, int other) throws IllegalArgumentException {
        checkRange(one, 0, HIGHEST_RECEIPT);
        checkRange(other, 0, HIGHEST_RECEIPT);
        return receipts.edits(one, other);
    }

    // ---- checks

    private static void checkRange(int value, int least, int most) {
        if (value < least || value > most) {
            throw new IllegalArgumentException("an argument is out of its range");
        }
    }

    private static void checkTwoSites(int a, int b) {
        checkRange(a, 0, SITES - 1);
        checkRange(b, 0, SITES - 1);
        if (a == b) {
            throw new IllegalArgumentException("both sites are the same");
        }
    }

    private static void checkState(boolean allows) {
        if (!allows) {
            throw new IllegalStateException("the state does not allow this call");
        }
    }

    private static void checkLine(Report report, int line) {
        if (line < 0 || line >= report.lines.size()) {
            throw new IndexOutOfBoundsException("there is no such line");
        }
    }

    private void checkEmployee(int employee) {
        if (employee < 0 || employee >= employeeCount) {
            throw new NoSuchElementException("there is no such employee");
        }
    }

    private Report reportAt(int report) {
        if (report < 0 || report >= allReports.size()) {
            throw new NoSuchElementException("there is no such report");
        }
        return allReports.get(report);
    }

    // ---- amounts by the settings of now

    private void settle(Report report) {
        report.settle(settings, grades[report.employee]);
    }

    private void settleAllOf(int employee) {
        for (int i = 0; i < allReports.size(); i++) {
            Report report = allReports.get(i);
            if (report.employee == employee) {
                settle(report);
            }
        }
    }

    private Line settledLine(int report, int line) {
        Report asked = reportAt(report);
        checkLine(asked, line);
        settle(asked);
        return asked.lines.get(line);
    }

    /** Expects a line that there is, and settled reports of its employee. */
    private int firstLike(int report, int line) {
        Report asked = allReports.get(report);
        if (asked.lines.get(line) instanceof Item item) {
            for (int i = 0; i <= report; i++) {
                Report earlier = allReports.get(i);
                if (earlier.employee == asked.employee) {
                    int like = earlier.firstLike(item, i == report ? line : earlier.lines.size());
                    if (like != NONE) {
                        return 100 * i + like;
                    }
                }
            }
        }
        return NONE;
    }

    /** All that amounts of open reports depend on, but for the grade. */
    private static final class Settings {
        final Roads roads = new Roads();
        final Rules rules = new Rules();
        final int[] dayRates = new int[REGIONS];
        int kilometreRate = 0;
        final Currency[] currencies = new Currency[CURRENCIES];

        Settings() {
            for (int i = 0; i < CURRENCIES; i++) {
                currencies[i] = new Currency();
            }
            // No caller can tell the home currency a rate, so this one holds for every day.
            currencies[HOME].tell(0, Currency.UNIT);
        }
    }

    private static final class Roads {
        /** Longer than any way, and small enough to be added to itself. */
        private static final int FAR = 1000000;

        private final int[][] roads = new int[SITES][SITES];
        private final int[][] shortest = new int[SITES][SITES];

        Roads() {
            measure();
        }

        int build(int a, int b, int km) {
            int before = roads[a][b];
            roads[a][b] = km;
            roads[b][a] = km;
            if (km != before) {
                measure();
            }
            return before;
        }

        int shortestWay(int a, int b) {
            return shortest[a][b] == FAR ? NONE : shortest[a][b];
        }

        int firstSite(int a, int b) {
            // From a site to itself, and where there is no way, no road is as short as this asks.
            for (int site = 0; site < SITES; site++) {
                if (roads[a][site] > 0 && roads[a][site] + shortest[site][b] == shortest[a][b]) {
                    return site;
                }
            }
            return NONE;
        }

        private void measure() {
            for (int a = 0; a < SITES; a++) {
                for (int b = 0; b < SITES; b++) {
                    shortest[a][b] = roads[a][b] > 0 ? roads[a][b] : FAR;
                }
                shortest[a][a] = 0;
            }
            for (int between = 0; between < SITES; between++) {
                for (int a = 0; a < SITES; a++) {
                    allowWaysOver(between, a);
                }
            }
        }

        private void allowWaysOver(int between, int a) {
            for (int b = 0; b < SITES; b++) {
                shortest[a][b] = Math.min(shortest[a][b], shortest[a][between] + shortest[between][b]);
            }
        }
    }

    private static final class Rules {
        /** Row 0 is for ANY category, column 0 for ANY grade; so each stands one behind its number. */
        private final int[][] limits = new int[CATEGORIES + 1][GRADES + 1];

        Rules() {
            for (int row = 0; row <= CATEGORIES; row++) {
                Arrays.fill(limits[row], NONE);
            }
        }

        int put(int category, int grade, int limit) {
            int before = limits[category + 1][grade + 1];
            limits[category + 1][grade + 1] = limit;
            return before;
        }

        int counting(int category, int grade) {
            if (limits[category + 1][grade + 1] != NONE) {
                return limits[category + 1][grade + 1];
            }
            if (limits[category + 1][ANY + 1] != NONE) {
                return limits[category + 1][ANY + 1];
            }
            if (limits[ANY + 1][grade + 1] != NONE) {
                return limits[ANY + 1][grade + 1];
            }
            return limits[ANY + 1][ANY + 1];
        }
    }

    private static final class Rate {
        final int day;
        int worth;

        Rate(int day, int worth) {
            this.day = day;
            this.worth = worth;
        }
    }

    private static final class Currency {
        /** Rates are told in ten-thousandths of a cent of the home currency. */
        static final int UNIT = 10000;

        /** Ascending by day, at most one for a day. */
        private final ArrayList<Rate> told = new ArrayList<Rate>();

        int tell(int day, int worth) {
            int place = toldUpTo(day);
            if (place > 0 && told.get(place - 1).day == day) {
                Rate rate = told.get(place - 1);
                int before = rate.worth;
                rate.worth = worth;
                return before;
            }
            told.add(place, new Rate(day, worth));
            return 0;
        }

        int rateOn(int day) {
            int place = toldUpTo(day);
            return place == 0 ? NONE : told.get(place - 1).worth;
        }

        private int toldUpTo(int day) {
            for (int place = told.size(); place > 0; place--) {
                if (told.get(place - 1).day <= day) {
                    return place;
                }
            }
            return 0;
        }
    }

    private static final class Report {
        final int employee;
        final ArrayList<Line> lines = new ArrayList<Line>();
        boolean open = true;

        Report(int employee) {
            this.employee = employee;
        }

        boolean takesLine() {
            return open && lines.size() < MOST_LINES;
        }

        int append(Line line) {
            lines.add(line);
            return lines.size() - 1;
        }

        /** Leaves a report that is handed in as it is: so its amounts are kept. */
        void settle(Settings settings, int grade) {
            if (!open) {
                return;
            }
            for (int i = 0; i < lines.size(); i++) {
                Line line = lines.get(i);
                line.claim = line.claimBy(settings);
                line.payment = line.claim;
                if (line instanceof Item item) {
                    int limit = settings.rules.counting(item.category, grade);
                    if (limit != NONE) {
                        item.payment = Math.min(item.claim, limit - paidBefore(i, item));
                    }
                }
            }
        }

        private int paidBefore(int end, Item item) {
            int sum = 0;
            for (int i = 0; i < end; i++) {
                if (lines.get(i) instanceof Item earlier
                        && earlier.category == item.category && earlier.day == item.day) {
                    sum += earlier.payment;
                }
            }
            return sum;
        }

        int sum() {
            int sum = 0;
            for (int i = 0; i < lines.size(); i++) {
                sum += lines.get(i).payment;
            }
            return sum;
        }

        int sumOf(int category) {
            int sum = 0;
            for (int i = 0; i < lines.size(); i++) {
                if (lines.get(i) instanceof Item item && item.category == category) {
                    sum += item.payment;
                }
            }
            return sum;
        }

        int firstLike(Item item, int end) {
            for (int i = 0; i < end; i++) {
                if (lines.get(i) instanceof Item earlier && item.isLike(earlier)) {
                    return i;
                }
            }
            return NONE;
        }
    }

    private abstract static class Line {
        /** Claim and payment are those of the last time that the report was settled. */
        int claim;
        int payment;

        abstract int kind();

        abstract int claimBy(Settings settings);
    }

    private static final class Trip extends Line {
        private final int from;
        private final int to;
        private final int region;
        private final int breakfasts;
        private final int mainMeals;

        Trip(int from, int to, int region, int breakfasts, int mainMeals) {
            this.from = from;
            this.to = to;
            this.region = region;
            this.breakfasts = breakfasts;
            this.mainMeals = mainMeals;
        }

        int kind() {
            return TRIP;
        }

        int claimBy(Settings settings) {
            int rate = settings.dayRates[region];
            int lastDay = (to - 1) / MINUTES_OF_DAY;
            int sum = 0;
            for (int day = from / MINUTES_OF_DAY; day <= lastDay; day++) {
                sum += ofDay(day, rate);
            }
            // Each meal is rounded by itself, not their sum.
            sum -= breakfasts * (rate * 20 / 100) + mainMeals * (rate * 40 / 100);
            return Math.max(sum, 0);
        }

        private int ofDay(int day, int rate) {
            int begin = Math.max(from, day * MINUTES_OF_DAY);
            int end = Math.min(to, (day + 1) * MINUTES_OF_DAY);
            if (end - begin == MINUTES_OF_DAY) {
                return rate;
            }
            return end - begin >= MINUTES_OF_HALF_RATE ? rate / 2 : 0;
        }
    }

    private static final class Drive extends Line {
        private final int a;
        private final int b;
        private final boolean isReturn;

        Drive(int a, int b, boolean isReturn) {
            this.a = a;
            this.b = b;
            this.isReturn = isReturn;
        }

        int kind() {
            return DRIVE;
        }

        int claimBy(Settings settings) {
            int km = settings.roads.shortestWay(a, b);
            if (km == NONE) {
                return 0;
            }
            return (isReturn ? 2 * km : km) * settings.kilometreRate;
        }
    }

    private static final class Item extends Line {
        final int day;
        final int category;
        private final int amount;
        private final int currency;
        private final int receipt;

        Item(int day, int category, int amount, int currency, int receipt) {
            this.day = day;
            this.category = category;
            this.amount = amount;
            this.currency = currency;
            this.receipt = receipt;
        }

        int kind() {
            return ITEM;
        }

        int claimBy(Settings settings) {
            // A rate that was told can't be taken back, so there is still one for the day.
            long worth = (long) amount * settings.currencies[currency].rateOn(day);
            return (int) ((worth + Currency.UNIT / 2) / Currency.UNIT);
        }

        boolean isLike(Item earlier) {
            int greater = Math.max(claim, earlier.claim);
            return Math.abs(day - earlier.day) <= 3
                    && 100 * Math.abs(claim - earlier.claim) <= greater
                    && Receipts.atMostOneEdit(receipt, earlier.receipt);
        }
    }

    private static final class Receipts {
        private final int[] oneDigits = new int[RECEIPT_DIGITS];
        private final int[] otherDigits = new int[RECEIPT_DIGITS];
        private final int[] row = new int[RECEIPT_DIGITS + 1];

        /** In row[j] stands the distance of the first i digits of the one and j of the other. */
        int edits(int one, int other) {
            int oneLength = split(one, oneDigits);
            int otherLength = split(other, otherDigits);
            for (int j = 0; j <= otherLength; j++) {
                row[j] = j;
            }
            for (int i = 1; i <= oneLength; i++) {
                int diagonal = row[0];
                row[0] = i;
                for (int j = 1; j <= otherLength; j++) {
                    int replaced = oneDigits[i - 1] == otherDigits[j - 1] ? diagonal : diagonal + 1;
                    diagonal = row[j];
                    row[j] = Math.min(replaced, 1 + Math.min(row[j - 1], row[j]));
                }
            }
            return row[otherLength];
        }

        /** Last digits first: read backwards, two texts have the same distance. */
        private static int split(int number, int[] digits) {
            int rest = number;
            int length = 0;
            do {
                digits[length] = rest % 10;
                rest /= 10;
                length++;
            } while (rest > 0 && length < digits.length);
            return length;
        }

        /**
         * The same as edits(one, other) <= 1, without its table, as it is asked of many pairs: once the
         * digits that both texts end with are gone, a single edit can only be one of the last digit.
         */
        static boolean atMostOneEdit(int one, int other) {
            int a = one;
            int b = other;
            for (int i = 0; i < RECEIPT_DIGITS && a % 10 == b % 10; i++) {
                a /= 10;
                b /= 10;
                if (a == 0 || b == 0) {
                    // One text has ended: it has no digit that a zero of the other could be equal to.
                    break;
                }
            }
            return a / 10 == b / 10 || a / 10 == b || a == b / 10;
        }
    }
}
