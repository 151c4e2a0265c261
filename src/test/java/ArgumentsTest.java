/**
 * For each argument of each call: the least and the greatest value that is allowed are taken, the ones beyond
 * are refused by the exception that is due, and change nothing.
 */
public final class ArgumentsTest {
    private static final String ARGUMENT = "IllegalArgumentException";
    private static final String INDEX = "IndexOutOfBoundsException";
    private static final String ELEMENT = "NoSuchElementException";

    private static final String SETTINGS = """
        setRoad(0, 5, 10)
        setRoad(5, 11, 20)
        setDayRate(0, 900)
        setKilometreRate(30)
        setExchange(1, 0, 20000)
        setExchange(4, 0, 5000)
        setLimit(0, 0, 150)
        """;
    private static final String EIGHT_EMPLOYEES = "addEmployee(3)\n".repeat(8);
    /** Lines in the first and the last report alone, so that a call of the last one can be told from others. */
    private static final String SIXTEEN_REPORTS = SETTINGS + "addEmployee(0)\n" + "openReport(0)\n".repeat(16) + """
        addItem(0, 3, 0, 100, 1, 7)
        addItem(15, 3, 0, 100, 1, 7)
        """;
    private static final String ONE_REPORT = SETTINGS + """
        addEmployee(0)
        openReport(0)
        addItem(0, 3, 0, 100, 1, 7)
        """;
    private static final String TWENTY_LINES = ONE_REPORT + "addItem(0, 4, 0, 100, 1, 7)\n".repeat(19);

    public static void main(String[] args) {
        settings();
        questionsOfSettings();
        employees();
        reports();
        minutesOfTrips();
        tripsAndDrives();
        items();
        linesOfReports();
        receipts();
        Check.end("ArgumentsTest");
    }

    private static void settings() {
        Script.range(SETTINGS, "setRoad(#, 5, 7)", 0, 11, ARGUMENT);
        Script.range(SETTINGS, "setRoad(5, #, 7)", 0, 11, ARGUMENT);
        Script.range(SETTINGS, "setRoad(0, 11, #)", 0, 500, ARGUMENT);
        Script.range(SETTINGS, "setDayRate(#, 7)", 0, 5, ARGUMENT);
        Script.range(SETTINGS, "setDayRate(0, #)", 0, 100000, ARGUMENT);
        Script.range(SETTINGS, "setKilometreRate(#)", 0, 500, ARGUMENT);
        Script.range(SETTINGS, "setExchange(#, 5, 7)", 1, 4, ARGUMENT);
        Script.range(SETTINGS, "setExchange(1, #, 7)", 0, 3649, ARGUMENT);
        Script.range(SETTINGS, "setExchange(1, 5, #)", 1, 100000, ARGUMENT);
        Script.range(SETTINGS, "setLimit(#, 0, 7)", -1, 5, ARGUMENT);
        Script.range(SETTINGS, "setLimit(0, #, 7)", -1, 3, ARGUMENT);
        Script.range(SETTINGS, "setLimit(0, 0, #)", -1, 10000000, ARGUMENT);
    }

    private static void questionsOfSettings() {
        Script.range(SETTINGS, "distance(#, 5)", 0, 11, ARGUMENT);
        Script.range(SETTINGS, "distance(5, #)", 0, 11, ARGUMENT);
        Script.range(SETTINGS, "via(#, 5)", 0, 11, ARGUMENT);
        Script.range(SETTINGS, "via(5, #)", 0, 11, ARGUMENT);
        Script.range(SETTINGS, "exchange(#, 5)", 0, 4, ARGUMENT);
        Script.range(SETTINGS, "exchange(1, #)", 0, 3649, ARGUMENT);
        Script.range(SETTINGS, "limit(#, 0)", 0, 5, ARGUMENT);
        Script.range(SETTINGS, "limit(0, #)", 0, 3, ARGUMENT);
    }

    private static void employees() {
        Script.range(ONE_REPORT, "addEmployee(#)", 0, 3, ARGUMENT);
        Script.range(ONE_REPORT, "setGrade(0, #)", 0, 3, ARGUMENT);
        Script.range(EIGHT_EMPLOYEES, "setGrade(#, 1)", 0, 7, ELEMENT);
        Script.range(EIGHT_EMPLOYEES, "openReport(#)", 0, 7, ELEMENT);
        Script.range(EIGHT_EMPLOYEES, "handedIn(#)", 0, 7, ELEMENT);
        Script.range(EIGHT_EMPLOYEES, "totalOf(#, 0)", 0, 7, ELEMENT);
        Script.range(ONE_REPORT, "totalOf(0, #)", 0, 5, ARGUMENT);
        Script.range(ONE_REPORT, "openReport(#)", 0, 0, ELEMENT);
        Script.range(ONE_REPORT, "setGrade(#, 1)", 0, 0, ELEMENT);
        Script.range(ONE_REPORT, "handedIn(#)", 0, 0, ELEMENT);
        Script.range(ONE_REPORT, "totalOf(#, 0)", 0, 0, ELEMENT);
    }

    private static void reports() {
        for (String call : new String[] {"addTrip(#, 0, 5, 0, 0, 0, 0)", "addDrive(#, 0, 11, true)",
            "addItem(#, 3, 0, 100, 1, 7)", "removeLine(#, 0)", "handIn(#)", "isOpen(#)", "lines(#)", "kindOf(#, 0)",
            "claimed(#, 0)", "paid(#, 0)", "total(#)", "duplicateOf(#, 0)", "duplicates(#)"}) {
            Script.range(SIXTEEN_REPORTS, call, 0, 15, ELEMENT);
            Script.range(ONE_REPORT, call, 0, 0, ELEMENT);
        }
        Script.range(SIXTEEN_REPORTS + "handIn(0)\nhandIn(15)\n", "giveBack(#)", 0, 15, ELEMENT);
        Script.range(ONE_REPORT + "handIn(0)\n", "giveBack(#)", 0, 0, ELEMENT);
    }

    private static void minutesOfTrips() {
        Script.range(ONE_REPORT, "addTrip(0, #, 200, 0, 0, 0, 0)", 0, 199, ARGUMENT);
        Script.range(ONE_REPORT, "addTrip(0, #, 43200, 0, 0, 0, 0)", 0, 43199, ARGUMENT);
        Script.range(ONE_REPORT, "addTrip(0, #, 43201, 0, 0, 0, 0)", 1, 43200, ARGUMENT);
        Script.range(ONE_REPORT, "addTrip(0, #, 90000, 0, 0, 0, 0)", 46800, 89999, ARGUMENT);
        Script.range(ONE_REPORT, "addTrip(0, #, 5256000, 0, 0, 0, 0)", 5212800, 5255999, ARGUMENT);
        Script.range(ONE_REPORT, "addTrip(0, 0, #, 0, 0, 0, 0)", 1, 43200, ARGUMENT);
        Script.range(ONE_REPORT, "addTrip(0, 50000, #, 0, 0, 0, 0)", 50001, 93200, ARGUMENT);
        Script.range(ONE_REPORT, "addTrip(0, 5212799, #, 0, 0, 0, 0)", 5212800, 5255999, ARGUMENT);
        Script.range(ONE_REPORT, "addTrip(0, 5212800, #, 0, 0, 0, 0)", 5212801, 5256000, ARGUMENT);
        Script.range(ONE_REPORT, "addTrip(0, 5212801, #, 0, 0, 0, 0)", 5212802, 5256000, ARGUMENT);
        Script.range(ONE_REPORT, "addTrip(0, 5255999, #, 0, 0, 0, 0)", 5256000, 5256000, ARGUMENT);
    }

    private static void tripsAndDrives() {
        Script.range(ONE_REPORT, "addTrip(0, 0, 5, #, 0, 0, 0)", 0, 5, ARGUMENT);
        Script.range(ONE_REPORT, "addTrip(0, 0, 5, 0, #, 0, 0)", 0, 31, ARGUMENT);
        Script.range(ONE_REPORT, "addTrip(0, 0, 5, 0, 0, #, 0)", 0, 31, ARGUMENT);
        Script.range(ONE_REPORT, "addTrip(0, 0, 5, 0, 0, 0, #)", 0, 31, ARGUMENT);
        Script.range(ONE_REPORT, "addTrip(0, 0, 5, 0, #, #, #)", 0, 31, ARGUMENT);
        Script.range(ONE_REPORT, "addDrive(0, #, 5, false)", 0, 11, ARGUMENT);
        Script.range(ONE_REPORT, "addDrive(0, 5, #, true)", 0, 11, ARGUMENT);
    }

    private static void items() {
        Script.range(ONE_REPORT, "addItem(0, #, 0, 100, 1, 7)", 0, 3649, ARGUMENT);
        Script.range(ONE_REPORT, "addItem(0, 3, #, 100, 1, 7)", 0, 5, ARGUMENT);
        Script.range(ONE_REPORT, "addItem(0, 3, 0, #, 1, 7)", 1, 500000, ARGUMENT);
        Script.range(ONE_REPORT, "addItem(0, 3, 0, 100, #, 7)", 0, 4, ARGUMENT);
        Script.range(ONE_REPORT, "addItem(0, 3, 0, 100, 1, #)", 0, 999999999, ARGUMENT);
    }

    private static void linesOfReports() {
        for (String call : new String[] {"removeLine(0, #)", "kindOf(0, #)", "claimed(0, #)", "paid(0, #)",
            "duplicateOf(0, #)"}) {
            Script.range(ONE_REPORT, call, 0, 0, INDEX);
            Script.range(TWENTY_LINES, call, 0, 19, INDEX);
        }
    }

    private static void receipts() {
        Script.range(SETTINGS, "editDistance(#, 5)", 0, 999999999, ARGUMENT);
        Script.range(SETTINGS, "editDistance(5, #)", 0, 999999999, ARGUMENT);
    }
}
