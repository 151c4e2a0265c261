/**
 * The sentences of the document that name an edge, one after the other, each asked on both sides of its edge:
 * settings, what lines claim and are paid, and what is kept. NearDuplicatesTest has those on near duplicates,
 * ArgumentsTest and RefusalsTest those on what is refused.
 */
public final class EdgesTest {
    private static final String ONE_REPORT = "addEmployee(0) = 0\nopenReport(0) = 0\n";
    private static final String TWO_REPORTS = ONE_REPORT + "openReport(0) = 1\n";
    private static final String ONE_OF_EACH = TWO_REPORTS + """
        setDayRate(0, 900)
        setKilometreRate(10)
        setRoad(0, 1, 7)
        setExchange(1, 3, 20000)
        setLimit(2, 0, 150)
        addTrip(0, 0, 1440, 0, 0, 0, 0) = 0
        addDrive(0, 0, 1, false) = 1
        addItem(0, 5, 2, 50, 1, 0) = 2
        addItem(0, 5, 2, 80, 0, 0) = 3
        """;
    private static final String ALL_CHANGED = """
        setDayRate(0, 100) = 900
        setKilometreRate(1) = 10
        setRoad(0, 1, 0) = 7
        setExchange(1, 4, 4000) = 0
        setLimit(2, 0, -1) = 150
        setLimit(2, 3, 90) = -1
        setGrade(0, 3) = 0
        """;

    public static void main(String[] args) {
        roads();
        ways();
        lowestWay();
        ratesOfDays();
        halvesUp();
        specificRulesFirst();
        fullDays();
        halfDays();
        oddDayRates();
        longestTrips();
        meals();
        tripsBelowZero();
        drives();
        itemsByDays();
        numbersOfLines();
        limitsOfItems();
        limitsThatChange();
        limitsApart();
        noLimitForOthers();
        openReports();
        keptAmounts();
        keptPayments();
        totals();
        Check.end("EdgesTest");
    }

    // ---- settings

    private static void roads() {
        Script.due("a road of 1 to 500 km, which can be driven both ways", """
            setRoad(0, 11, 1) = 0
            distance(0, 11) = 1
            distance(11, 0) = 1
            setRoad(11, 0, 500) = 1
            distance(0, 11) = 500
            distance(11, 0) = 500
            """);
        Script.due("0: no road", """
            setRoad(0, 11, 0) = 0
            distance(0, 11) = -1
            setRoad(0, 11, 7) = 0
            setRoad(11, 0, 0) = 7
            distance(0, 11) = -1
            distance(11, 0) = -1
            setRoad(0, 11, 0) = 0
            """);
    }

    private static void ways() {
        Script.due("the length of the shortest way", """
            setRoad(0, 1, 10)
            setRoad(1, 2, 10)
            setRoad(0, 2, 21)
            distance(0, 2) = 20
            setRoad(0, 2, 20)
            distance(0, 2) = 20
            setRoad(0, 2, 19)
            distance(0, 2) = 19
            setRoad(1, 2, 0)
            distance(1, 2) = 29
            """);
        Script.due("0 from a site to itself", """
            distance(0, 0) = 0
            distance(11, 11) = 0
            setRoad(0, 11, 1)
            distance(0, 0) = 0
            distance(11, 11) = 0
            via(0, 0) = -1
            via(11, 11) = -1
            """);
        StringBuilder line = new StringBuilder();
        for (int site = 0; site < 11; site++) {
            line.append("setRoad(").append(site).append(", ").append(site + 1).append(", 500)\n");
        }
        Script.due("the longest way that there can be", line.toString(), """
            distance(0, 11) = 5500
            distance(11, 0) = 5500
            via(0, 11) = 1
            via(11, 0) = 10
            """);
    }

    private static void lowestWay() {
        String twoWays = """
            setRoad(3, 9, 10)
            setRoad(9, 5, 10)
            setRoad(3, 7, 12)
            """;
        Script.due("of several shortest ways the lowest one", twoWays, """
            setRoad(7, 5, 8)
            via(3, 5) = 7
            setRoad(3, 5, 20)
            via(3, 5) = 5
            """);
        Script.due("the shortest way before the lowest one", twoWays, """
            setRoad(7, 5, 9)
            via(3, 5) = 9
            setRoad(7, 5, 7)
            via(3, 5) = 7
            setRoad(3, 5, 20)
            via(3, 5) = 7
            """);
        Script.due("no way", twoWays, """
            via(3, 0) = -1
            via(0, 3) = -1
            setRoad(0, 11, 1)
            via(3, 11) = -1
            via(11, 0) = 0
            via(0, 11) = 11
            """);
    }

    private static void ratesOfDays() {
        Script.due("the rate that was told for this day, or else for the nearest earlier day", """
            setExchange(4, 5, 50) = 0
            setExchange(4, 10, 100000) = 0
            exchange(4, 0) = -1
            exchange(4, 4) = -1
            exchange(4, 5) = 50
            exchange(4, 6) = 50
            exchange(4, 9) = 50
            exchange(4, 10) = 100000
            exchange(4, 11) = 100000
            exchange(4, 3649) = 100000
            exchange(3, 3649) = -1
            setExchange(4, 7, 1) = 0
            exchange(4, 6) = 50
            exchange(4, 7) = 1
            exchange(4, 9) = 1
            exchange(4, 10) = 100000
            setExchange(4, 5, 60) = 50
            exchange(4, 6) = 60
            exchange(4, 7) = 1
            """);
        Script.due("rates on the first and the last day", """
            setExchange(1, 3649, 70) = 0
            exchange(1, 3648) = -1
            exchange(1, 3649) = 70
            setExchange(1, 0, 80) = 0
            exchange(1, 0) = 80
            exchange(1, 1) = 80
            exchange(1, 3648) = 80
            exchange(1, 3649) = 70
            setExchange(1, 0, 81) = 80
            setExchange(1, 3649, 71) = 70
            """);
        Script.due("the rate of the home currency is always 10000", """
            exchange(0, 0) = 10000
            exchange(0, 3649) = 10000
            setExchange(0, 0, 5) throws IllegalArgumentException
            exchange(0, 0) = 10000
            """);
    }

    private static void turned(int amount, int rate, int want) {
        Script.due("rounded to the nearest whole number, halves up", ONE_REPORT,
            "setExchange(1, 0, " + rate + ")\naddItem(0, 0, 0, " + amount + ", 1, 0) = 0\nclaimed(0, 0) = " + want);
    }

    private static void halvesUp() {
        turned(1, 4999, 0);
        turned(1, 5000, 1);
        turned(1, 5001, 1);
        turned(1, 14999, 1);
        turned(1, 15000, 2);
        turned(3, 5000, 2);
        turned(4999, 1, 0);
        turned(5000, 1, 1);
        turned(14999, 1, 1);
        turned(15000, 1, 2);
        turned(1, 1, 0);
        turned(1, 10000, 1);
        turned(1, 100000, 10);
        turned(500000, 1, 50);
        turned(500000, 100000, 5000000);
        turned(499999, 99999, 4999940);
        turned(497500, 99999, 4974950);
    }

    private static void specificRulesFirst() {
        String[] rules = {"setLimit(2, 1, 0)\n", "setLimit(2, -1, 20)\n", "setLimit(-1, 1, 30)\n",
            "setLimit(-1, -1, 40)\n"};
        int[] limits = {0, 20, 30, 40};
        for (int chosen = 0; chosen < 16; chosen++) {
            StringBuilder script = new StringBuilder();
            int due = ExpenseDesk.NONE;
            for (int i = 3; i >= 0; i--) {
                if ((chosen >> i & 1) == 1) {
                    script.append(rules[i]);
                    due = limits[i];
                }
            }
            Script.due("the first rule that there is of these counts", script + "limit(2, 1) = " + due);
        }
        Script.due("rules of others do not count", """
            setLimit(2, 0, 1)
            setLimit(1, 1, 2)
            setLimit(1, -1, 3)
            setLimit(-1, 0, 4)
            limit(2, 1) = -1
            limit(2, 0) = 1
            limit(1, 1) = 2
            limit(1, 2) = 3
            limit(5, 0) = 4
            """);
    }

    // ---- what lines claim

    private static void trip(String sentence, int rate, int from, int to, String meals, int want) {
        Script.due(sentence, ONE_REPORT, "setDayRate(2, " + rate + ")\naddTrip(0, " + from + ", " + to + ", 2, " + meals
            + ") = 0\nclaimed(0, 0) = " + want + "\npaid(0, 0) = " + want);
    }

    private static void fullDays() {
        String sentence = "a day with 1440 minutes counts with the day rate";
        trip(sentence, 901, 0, 1440, "0, 0, 0", 901);
        trip(sentence, 901, 0, 1439, "0, 0, 0", 450);
        trip(sentence, 901, 1, 1440, "0, 0, 0", 450);
        trip(sentence, 901, 1440, 2880, "0, 0, 0", 901);
        trip(sentence, 901, 1439, 2880, "0, 0, 0", 901);
        trip(sentence, 901, 1440, 2881, "0, 0, 0", 901);
        trip(sentence, 901, 1441, 2880, "0, 0, 0", 450);
        trip(sentence, 901, 1440, 2879, "0, 0, 0", 450);
        trip(sentence, 901, 0, 2880, "0, 0, 0", 1802);
        trip(sentence, 901, 0, 2879, "0, 0, 0", 1351);
        trip(sentence, 901, 720, 2160, "0, 0, 0", 900);
        trip(sentence, 901, 5254560, 5256000, "0, 0, 0", 901);
        trip(sentence, 901, 5254561, 5256000, "0, 0, 0", 450);
        trip(sentence, 901, 5254559, 5256000, "0, 0, 0", 901);
    }

    private static void halfDays() {
        String sentence = "a day with 480 minutes or more counts with half of it, other days with nothing";
        trip(sentence, 900, 0, 1, "0, 0, 0", 0);
        trip(sentence, 900, 0, 479, "0, 0, 0", 0);
        trip(sentence, 900, 0, 480, "0, 0, 0", 450);
        trip(sentence, 900, 0, 481, "0, 0, 0", 450);
        trip(sentence, 900, 961, 1440, "0, 0, 0", 0);
        trip(sentence, 900, 960, 1440, "0, 0, 0", 450);
        trip(sentence, 900, 500, 979, "0, 0, 0", 0);
        trip(sentence, 900, 500, 980, "0, 0, 0", 450);
        trip(sentence, 900, 961, 1919, "0, 0, 0", 0);
        trip(sentence, 900, 960, 1919, "0, 0, 0", 450);
        trip(sentence, 900, 961, 1920, "0, 0, 0", 450);
        trip(sentence, 900, 960, 1920, "0, 0, 0", 900);
        trip(sentence, 900, 961, 2880 + 479, "0, 0, 0", 900);
        trip(sentence, 900, 960, 2880 + 480, "0, 0, 0", 1800);
        trip(sentence, 900, 5255521, 5256000, "0, 0, 0", 0);
        trip(sentence, 900, 5255520, 5256000, "0, 0, 0", 450);
    }

    private static void oddDayRates() {
        String sentence = "half of it, rounded down";
        trip(sentence, 1, 0, 480, "0, 0, 0", 0);
        trip(sentence, 1, 0, 1440, "0, 0, 0", 1);
        trip(sentence, 2, 0, 480, "0, 0, 0", 1);
        trip(sentence, 3, 0, 480, "0, 0, 0", 1);
        trip(sentence, 3, 960, 1920, "0, 0, 0", 2);
        trip(sentence, 99999, 0, 480, "0, 0, 0", 49999);
        trip(sentence, 100000, 0, 480, "0, 0, 0", 50000);
        trip("a day rate of 0", 0, 0, 43200, "0, 0, 0", 0);
        trip("a day rate of 0", 0, 0, 43200, "31, 31, 31", 0);
    }

    private static void longestTrips() {
        String sentence = "a trip of at most 43200 minutes";
        trip(sentence, 901, 0, 43200, "0, 0, 0", 30 * 901);
        trip(sentence, 100000, 0, 43200, "0, 0, 0", 3000000);
        trip(sentence, 901, 1, 43201, "0, 0, 0", 450 + 29 * 901);
        trip(sentence, 901, 480, 43680, "0, 0, 0", 450 + 29 * 901 + 450);
        trip(sentence, 901, 1439, 44639, "0, 0, 0", 29 * 901 + 450);
        trip(sentence, 901, 5212800, 5256000, "0, 0, 0", 30 * 901);
    }

    private static void meals() {
        String sentence = "20 hundredths for a breakfast, 40 for a lunch and a dinner, each rounded down by itself";
        trip(sentence, 99, 0, 7200, "1, 0, 0", 495 - 19);
        trip(sentence, 99, 0, 7200, "2, 0, 0", 495 - 38);
        trip(sentence, 99, 0, 7200, "0, 1, 0", 495 - 39);
        trip(sentence, 99, 0, 7200, "0, 2, 0", 495 - 78);
        trip(sentence, 99, 0, 7200, "0, 0, 1", 495 - 39);
        trip(sentence, 99, 0, 7200, "0, 0, 2", 495 - 78);
        trip(sentence, 99, 0, 7200, "0, 1, 1", 495 - 78);
        trip(sentence, 99, 0, 7200, "1, 1, 0", 495 - 58);
        trip(sentence, 4, 0, 7200, "31, 0, 0", 20);
        trip(sentence, 5, 0, 7200, "24, 0, 0", 1);
        trip(sentence, 2, 0, 7200, "31, 31, 31", 10);
        trip(sentence, 3, 0, 7200, "31, 14, 0", 1);
        trip(sentence, 1000, 0, 480, "1, 0, 0", 300);
        trip(sentence, 1000, 0, 43200, "31, 31, 0", 30000 - 6200 - 12400);
        trip(sentence, 1000, 0, 43200, "0, 31, 31", 30000 - 24800);
    }

    private static void tripsBelowZero() {
        String sentence = "a trip claims 0 if this comes below 0";
        trip(sentence, 1001, 0, 1440, "1, 1, 1", 1);
        trip(sentence, 1000, 0, 1440, "1, 1, 1", 0);
        trip(sentence, 1000, 0, 1440, "2, 1, 1", 0);
        trip(sentence, 1000, 0, 480, "0, 1, 0", 100);
        trip(sentence, 1000, 0, 480, "1, 1, 0", 0);
        trip(sentence, 1000, 0, 479, "1, 0, 0", 0);
        trip(sentence, 1000, 0, 479, "0, 0, 0", 0);
        trip(sentence, 100000, 0, 43200, "31, 31, 31", 0);
        trip(sentence, 100000, 0, 1, "31, 31, 31", 0);
        Script.due("a line that claims 0 takes nothing from the total", ONE_REPORT, """
            setDayRate(2, 1000)
            addTrip(0, 0, 1, 2, 31, 31, 31) = 0
            addTrip(0, 0, 1440, 2, 0, 0, 0) = 1
            total(0) = 1000
            """);
    }

    private static void drives() {
        Script.due("the distance, twice this for a return drive, times the kilometre rate", ONE_REPORT, """
            setRoad(0, 1, 1)
            setRoad(1, 2, 500)
            addDrive(0, 0, 1, false) = 0
            addDrive(0, 1, 0, true) = 1
            addDrive(0, 0, 2, true) = 2
            claimed(0, 2) = 0
            setKilometreRate(1)
            claimed(0, 0) = 1
            claimed(0, 1) = 2
            claimed(0, 2) = 1002
            setKilometreRate(500)
            claimed(0, 0) = 500
            claimed(0, 1) = 1000
            claimed(0, 2) = 501000
            """);
        Script.due("0 if there is no way any more", ONE_REPORT, """
            setKilometreRate(10)
            setRoad(0, 1, 7)
            addDrive(0, 0, 1, false) = 0
            addDrive(0, 1, 0, true) = 1
            setRoad(0, 1, 0)
            claimed(0, 0) = 0
            claimed(0, 1) = 0
            paid(0, 1) = 0
            total(0) = 0
            setRoad(0, 11, 3)
            setRoad(1, 11, 5)
            claimed(0, 0) = 80
            claimed(0, 1) = 160
            total(0) = 240
            """);
    }

    private static void itemsByDays() {
        String rates = """
            setExchange(1, 5, 20000)
            setExchange(1, 10, 30000)
            """;
        Script.due("an item claims its amount by the rate of its day", ONE_REPORT, rates, """
            addItem(0, 4, 0, 7, 1, 0) throws IllegalStateException
            addItem(0, 5, 0, 7, 1, 0) = 0
            addItem(0, 6, 0, 7, 1, 0) = 1
            addItem(0, 9, 0, 7, 1, 0) = 2
            addItem(0, 10, 0, 7, 1, 0) = 3
            addItem(0, 3649, 0, 7, 1, 0) = 4
            addItem(0, 0, 0, 7, 0, 0) = 5
            claimed(0, 0) = 14
            claimed(0, 1) = 14
            claimed(0, 2) = 14
            claimed(0, 3) = 21
            claimed(0, 4) = 21
            claimed(0, 5) = 7
            """);
        Script.due("by a rate that is told later for its day, or for one that is nearer", ONE_REPORT, rates, """
            addItem(0, 9, 0, 7, 1, 0) = 0
            addItem(0, 10, 0, 7, 1, 0) = 1
            addItem(0, 3649, 0, 7, 1, 0) = 2
            setExchange(1, 4, 100000)
            claimed(0, 0) = 14
            setExchange(1, 9, 40000)
            setExchange(1, 3649, 50000)
            claimed(0, 0) = 28
            claimed(0, 1) = 21
            claimed(0, 2) = 35
            setExchange(1, 10, 60000)
            claimed(0, 1) = 42
            claimed(0, 2) = 35
            """);
    }

    private static void numbersOfLines() {
        Script.due("numbered from 0, in the order in which they were added; lines behind a removed one get lower", """
            setRoad(0, 1, 7)
            """, ONE_REPORT, """
            addItem(0, 0, 0, 1, 0, 0) = 0
            addDrive(0, 0, 1, false) = 1
            addTrip(0, 0, 5, 0, 0, 0, 0) = 2
            addItem(0, 0, 0, 2, 0, 0) = 3
            kindOf(0, 0) = 2
            kindOf(0, 1) = 1
            kindOf(0, 2) = 0
            kindOf(0, 3) = 2
            removeLine(0, 1) = 3
            kindOf(0, 0) = 2
            kindOf(0, 1) = 0
            kindOf(0, 2) = 2
            claimed(0, 0) = 1
            claimed(0, 2) = 2
            kindOf(0, 3) throws IndexOutOfBoundsException
            addDrive(0, 1, 0, true) = 3
            removeLine(0, 3) = 3
            removeLine(0, 0) = 2
            kindOf(0, 0) = 0
            kindOf(0, 1) = 2
            """);
    }

    // ---- what lines are paid

    private static void limitsOfItems() {
        Script.due("at most what is left of the limit", ONE_REPORT, """
            setLimit(1, 0, 100)
            addItem(0, 5, 1, 99, 0, 1) = 0
            addItem(0, 5, 1, 1, 0, 2) = 1
            addItem(0, 5, 1, 1, 0, 3) = 2
            paid(0, 0) = 99
            paid(0, 1) = 1
            paid(0, 2) = 0
            total(0) = 100
            """);
        Script.due("a limit that is reached just, and by more", ONE_REPORT, """
            setLimit(1, 0, 100)
            addItem(0, 5, 1, 100, 0, 1) = 0
            addItem(0, 6, 1, 101, 0, 2) = 1
            addItem(0, 7, 1, 60, 0, 3) = 2
            addItem(0, 7, 1, 60, 0, 4) = 3
            addItem(0, 7, 1, 10, 0, 5) = 4
            paid(0, 0) = 100
            paid(0, 1) = 100
            paid(0, 2) = 60
            paid(0, 3) = 40
            paid(0, 4) = 0
            claimed(0, 1) = 101
            claimed(0, 3) = 60
            claimed(0, 4) = 10
            """);
        Script.due("a limit of 0, and the greatest", ONE_REPORT, """
            setLimit(1, 0, 0)
            setExchange(1, 0, 100000)
            addItem(0, 5, 1, 500000, 1, 1) = 0
            addItem(0, 5, 1, 500000, 1, 2) = 1
            addItem(0, 5, 1, 1, 0, 3) = 2
            paid(0, 0) = 0
            paid(0, 2) = 0
            total(0) = 0
            setLimit(1, 0, 10000000) = 0
            paid(0, 1) = 5000000
            paid(0, 2) = 0
            total(0) = 10000000
            setLimit(1, 0, -1) = 10000000
            paid(0, 2) = 1
            total(0) = 10000001
            """);
    }

    private static void limitsThatChange() {
        Script.due("if no rule counts, there is no limit", ONE_REPORT, """
            addItem(0, 5, 1, 100, 0, 1) = 0
            addItem(0, 5, 1, 100, 0, 2) = 1
            total(0) = 200
            setLimit(1, 0, 150) = -1
            paid(0, 1) = 50
            setLimit(-1, -1, 120) = -1
            paid(0, 1) = 50
            setLimit(1, 0, -1) = 150
            paid(0, 1) = 20
            setLimit(-1, -1, -1) = 120
            paid(0, 1) = 100
            """);
        Script.due("the grade of the employee", ONE_REPORT, """
            setLimit(1, 3, 30)
            setLimit(-1, 0, 20)
            addItem(0, 5, 1, 100, 0, 1) = 0
            paid(0, 0) = 20
            setGrade(0, 3) = 0
            paid(0, 0) = 30
            setGrade(0, 2) = 3
            paid(0, 0) = 100
            """);
        Script.due("less what is paid for earlier items: not when they are removed", ONE_REPORT, """
            setLimit(1, 0, 100)
            addItem(0, 5, 1, 70, 0, 1) = 0
            addItem(0, 5, 1, 80, 0, 2) = 1
            addItem(0, 5, 1, 90, 0, 3) = 2
            paid(0, 1) = 30
            paid(0, 2) = 0
            removeLine(0, 0) = 2
            paid(0, 0) = 80
            paid(0, 1) = 20
            removeLine(0, 0) = 1
            paid(0, 0) = 90
            """);
    }

    private static void limitsApart() {
        Script.due("earlier items with the same category and the same day", ONE_REPORT, """
            setLimit(-1, -1, 100)
            addItem(0, 5, 1, 90, 0, 1) = 0
            addItem(0, 4, 1, 91, 0, 2) = 1
            addItem(0, 6, 1, 92, 0, 3) = 2
            addItem(0, 5, 0, 93, 0, 4) = 3
            addItem(0, 5, 2, 94, 0, 5) = 4
            addItem(0, 5, 1, 95, 0, 6) = 5
            paid(0, 1) = 91
            paid(0, 2) = 92
            paid(0, 3) = 93
            paid(0, 4) = 94
            paid(0, 5) = 10
            """);
        Script.due("earlier items of the same report", TWO_REPORTS, """
            setLimit(1, 0, 100)
            addItem(0, 5, 1, 90, 0, 1) = 0
            addItem(1, 5, 1, 95, 0, 2) = 0
            paid(0, 0) = 90
            paid(1, 0) = 95
            totalOf(0, 1) = 185
            """);
        Script.due("by what earlier items claim in the home currency", ONE_REPORT, """
            setLimit(1, 0, 100)
            setExchange(1, 0, 5000)
            addItem(0, 5, 1, 120, 1, 1) = 0
            addItem(0, 5, 1, 120, 1, 2) = 1
            paid(0, 0) = 60
            paid(0, 1) = 40
            setExchange(1, 5, 10000)
            paid(0, 0) = 100
            paid(0, 1) = 0
            """);
    }

    private static void noLimitForOthers() {
        Script.due("a line is paid what it claims for trips and drives", ONE_REPORT, """
            setLimit(-1, -1, 0)
            setDayRate(0, 900)
            setKilometreRate(10)
            setRoad(0, 1, 7)
            addTrip(0, 0, 1440, 0, 0, 0, 0) = 0
            addDrive(0, 0, 1, false) = 1
            addItem(0, 0, 0, 50, 0, 0) = 2
            paid(0, 0) = 900
            paid(0, 1) = 70
            paid(0, 2) = 0
            setLimit(-1, -1, 40)
            paid(0, 2) = 40
            totalOf(0, 0) = 40
            """);
    }

    // ---- open reports, and what is kept

    private static void openReports() {
        Script.due("as long as a report is open, all this is by the settings of now", ONE_OF_EACH, """
            total(0) = 1120
            """, ALL_CHANGED, """
            claimed(0, 0) = 100
            claimed(0, 1) = 0
            claimed(0, 2) = 20
            claimed(0, 3) = 80
            paid(0, 2) = 20
            paid(0, 3) = 70
            total(0) = 190
            totalOf(0, 2) = 90
            handedIn(0) = 0
            handIn(0) = 190
            handedIn(0) = 190
            """);
    }

    private static void keptAmounts() {
        Script.due("what each line claims and is paid is kept, whatever changes later", ONE_OF_EACH, """
            handIn(0) = 1120
            """, ALL_CHANGED, """
            claimed(0, 0) = 900
            claimed(0, 1) = 70
            claimed(0, 2) = 100
            claimed(0, 3) = 80
            paid(0, 0) = 900
            paid(0, 1) = 70
            paid(0, 2) = 100
            paid(0, 3) = 50
            total(0) = 1120
            totalOf(0, 2) = 150
            handedIn(0) = 1120
            giveBack(0) = 1120
            total(0) = 190
            handedIn(0) = 0
            handIn(0) = 190
            giveBack(0) = 190
            """);
    }

    private static void keptPayments() {
        Script.due("the settings of now are those of the last call before it is handed in", ONE_OF_EACH, """
            setLimit(2, 0, 110) = 150
            handIn(0) = 1080
            setLimit(2, 0, 120) = 110
            paid(0, 3) = 10
            giveBack(0) = 1080
            paid(0, 3) = 20
            """);
        String changed = ONE_OF_EACH + ALL_CHANGED;
        Script.due("by the settings of now, whatever was asked before: total", changed, "total(0) = 190");
        Script.due("by the settings of now, whatever was asked before: claimed", changed, "claimed(0, 2) = 20");
        Script.due("by the settings of now, whatever was asked before: paid", changed, "paid(0, 3) = 70");
        Script.due("by the settings of now, whatever was asked before: totalOf", changed, "totalOf(0, 2) = 90");
        Script.due("by the settings of now, whatever was asked before: handIn", changed, "handIn(0) = 190");
        Script.due("what is kept for one report leaves another of the employee open", ONE_OF_EACH, """
            addItem(1, 5, 2, 50, 1, 0) = 0
            handIn(0) = 1120
            """, ALL_CHANGED, """
            claimed(1, 0) = 20
            total(1) = 20
            totalOf(0, 2) = 170
            handedIn(0) = 1120
            """);
    }

    private static void totals() {
        Script.due("totals without lines, and of those that claim 0", TWO_REPORTS, """
            total(0) = 0
            handedIn(0) = 0
            totalOf(0, 0) = 0
            duplicates(0) = 0
            addTrip(0, 0, 1, 0, 0, 0, 0) = 0
            handIn(0) = 0
            isOpen(0) = false
            handedIn(0) = 0
            giveBack(0) = 0
            isOpen(0) = true
            """);
        Script.due("the total of all reports of an employee that are handed in", TWO_REPORTS, """
            addEmployee(0) = 1
            openReport(1) = 2
            addItem(0, 0, 5, 1, 0, 0)
            addItem(1, 0, 5, 10, 0, 0)
            addItem(2, 0, 5, 100, 0, 0)
            handIn(1) = 10
            handIn(2) = 100
            handedIn(0) = 10
            handedIn(1) = 100
            totalOf(0, 5) = 11
            totalOf(0, 4) = 0
            totalOf(0, 0) = 0
            totalOf(1, 5) = 100
            handIn(0) = 1
            handedIn(0) = 11
            giveBack(1) = 10
            handedIn(0) = 1
            totalOf(0, 5) = 11
            """);
    }
}
