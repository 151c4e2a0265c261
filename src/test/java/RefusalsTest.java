/**
 * The states that refuse a call, just before and just when they are reached, and which exception comes first if
 * several apply. That a refused call changes nothing, Script asks for each of them.
 */
public final class RefusalsTest {
    private static final String ONE_REPORT = """
        addEmployee(0) = 0
        openReport(0) = 0
        """;
    private static final String HANDED_IN = ONE_REPORT + """
        setRoad(0, 1, 10)
        addItem(0, 3, 0, 100, 0, 7) = 0
        handIn(0) = 100
        """;
    private static final String TWENTY_LINES = ONE_REPORT + "setRoad(0, 1, 10)\n"
        + "addItem(0, 3, 0, 100, 0, 7)\n".repeat(19) + "addItem(0, 3, 0, 100, 0, 7) = 19\n";

    public static void main(String[] args) {
        noEmployee();
        noReport();
        noLine();
        ninthEmployee();
        seventeenthReport();
        twentyFirstLine();
        noLineOfAHandedInReport();
        handedInTwice();
        givenBackWhileOpen();
        sameSites();
        noWay();
        noRateOnTheDay();
        noSuchReportComesFirst();
        Check.end("RefusalsTest");
    }

    private static void noEmployee() {
        Script.due("no employee", """
            setGrade(0, 0) throws NoSuchElementException
            openReport(0) throws NoSuchElementException
            handedIn(0) throws NoSuchElementException
            totalOf(0, 0) throws NoSuchElementException
            addEmployee(0) = 0
            setGrade(0, 0) = 0
            handedIn(0) = 0
            totalOf(0, 0) = 0
            openReport(0) = 0
            """);
        Script.due("no employee, and an argument out of its range", """
            setGrade(0, 4) throws NoSuchElementException
            setGrade(-1, -1) throws NoSuchElementException
            totalOf(0, 6) throws NoSuchElementException
            totalOf(-1, -1) throws NoSuchElementException
            addEmployee(3)
            setGrade(1, 4) throws NoSuchElementException
            setGrade(0, 4) throws IllegalArgumentException
            totalOf(1, 6) throws NoSuchElementException
            totalOf(0, 6) throws IllegalArgumentException
            totalOf(0, -1) throws IllegalArgumentException
            setGrade(0, 0) = 3
            """);
    }

    private static void noReport() {
        Script.due("an employee, but no report", """
            addEmployee(0)
            reports() = 0
            handIn(0) throws NoSuchElementException
            giveBack(0) throws NoSuchElementException
            addTrip(0, 0, 5, 0, 0, 0, 0) throws NoSuchElementException
            addDrive(0, 0, 1, false) throws NoSuchElementException
            addItem(0, 0, 0, 1, 0, 0) throws NoSuchElementException
            removeLine(0, 0) throws NoSuchElementException
            isOpen(0) throws NoSuchElementException
            lines(0) throws NoSuchElementException
            kindOf(0, 0) throws NoSuchElementException
            claimed(0, 0) throws NoSuchElementException
            paid(0, 0) throws NoSuchElementException
            total(0) throws NoSuchElementException
            duplicateOf(0, 0) throws NoSuchElementException
            duplicates(0) throws NoSuchElementException
            handedIn(0) = 0
            totalOf(0, 0) = 0
            """);
    }

    private static void noLine() {
        Script.due("a report without lines", ONE_REPORT, """
            isOpen(0) = true
            lines(0) = 0
            total(0) = 0
            duplicates(0) = 0
            handedIn(0) = 0
            totalOf(0, 0) = 0
            handIn(0) throws IllegalStateException
            isOpen(0) = true
            removeLine(0, 0) throws IndexOutOfBoundsException
            kindOf(0, 0) throws IndexOutOfBoundsException
            claimed(0, 0) throws IndexOutOfBoundsException
            paid(0, 0) throws IndexOutOfBoundsException
            duplicateOf(0, 0) throws IndexOutOfBoundsException
            """);
        Script.due("all lines removed again", ONE_REPORT, """
            addItem(0, 0, 0, 1, 0, 0) = 0
            addItem(0, 0, 0, 1, 0, 0) = 1
            removeLine(0, 1) = 1
            removeLine(0, 1) throws IndexOutOfBoundsException
            removeLine(0, 0) = 0
            removeLine(0, 0) throws IndexOutOfBoundsException
            handIn(0) throws IllegalStateException
            addItem(0, 0, 0, 5, 0, 0) = 0
            handIn(0) = 5
            """);
    }

    private static void ninthEmployee() {
        Script.due("the 8th and the 9th employee", "addEmployee(1)\n".repeat(7), """
            setGrade(7, 2) throws NoSuchElementException
            addEmployee(4) throws IllegalArgumentException
            addEmployee(2) = 7
            addEmployee(0) throws IllegalStateException
            addEmployee(3) throws IllegalStateException
            addEmployee(4) throws IllegalArgumentException
            addEmployee(-1) throws IllegalArgumentException
            setGrade(7, 0) = 2
            setGrade(8, 0) throws NoSuchElementException
            handedIn(8) throws NoSuchElementException
            totalOf(8, 0) throws NoSuchElementException
            openReport(8) throws NoSuchElementException
            openReport(7) = 0
            """);
    }

    private static void seventeenthReport() {
        Script.due("the 16th and the 17th report", "addEmployee(0)\n".repeat(2), "openReport(0)\n".repeat(15), """
            isOpen(15) throws NoSuchElementException
            openReport(2) throws NoSuchElementException
            reports() = 15
            openReport(1) = 15
            reports() = 16
            openReport(0) throws IllegalStateException
            openReport(1) throws IllegalStateException
            openReport(2) throws NoSuchElementException
            openReport(-1) throws NoSuchElementException
            reports() = 16
            lines(15) = 0
            lines(16) throws NoSuchElementException
            addItem(15, 0, 0, 40, 0, 0) = 0
            handIn(15) = 40
            openReport(1) throws IllegalStateException
            handedIn(1) = 40
            """);
    }

    private static void twentyFirstLine() {
        Script.due("the 20th and the 21st line", TWENTY_LINES, """
            addTrip(0, 0, 5, 0, 0, 0, 0) throws IllegalStateException
            addDrive(0, 0, 1, false) throws IllegalStateException
            addItem(0, 0, 0, 1, 0, 0) throws IllegalStateException
            addDrive(0, 0, 2, false) throws IllegalStateException
            addItem(0, 0, 0, 1, 1, 0) throws IllegalStateException
            addTrip(0, 0, 5, 6, 0, 0, 0) throws IllegalArgumentException
            addDrive(0, 1, 1, false) throws IllegalArgumentException
            addItem(0, 0, 0, 0, 0, 0) throws IllegalArgumentException
            addItem(1, 0, 0, 1, 0, 0) throws NoSuchElementException
            lines(0) = 20
            kindOf(0, 19) = 2
            kindOf(0, 20) throws IndexOutOfBoundsException
            removeLine(0, 20) throws IndexOutOfBoundsException
            removeLine(0, 19) = 19
            addTrip(0, 0, 5, 0, 0, 0, 0) = 19
            removeLine(0, 0) = 19
            addDrive(0, 0, 1, false) = 19
            kindOf(0, 18) = 0
            addItem(0, 0, 0, 1, 0, 0) throws IllegalStateException
            """);
        Script.due("20 lines of another report do not count", TWENTY_LINES, """
            openReport(0) = 1
            addItem(1, 0, 0, 1, 0, 0) = 0
            """);
    }

    private static void noLineOfAHandedInReport() {
        Script.due("a report that is not open takes and gives no line", HANDED_IN, """
            addTrip(0, 0, 5, 0, 0, 0, 0) throws IllegalStateException
            addDrive(0, 0, 1, false) throws IllegalStateException
            addItem(0, 3, 0, 1, 0, 0) throws IllegalStateException
            removeLine(0, 0) throws IllegalStateException
            lines(0) = 1
            """);
        Script.due("not open, and an argument out of its range", HANDED_IN, """
            addTrip(0, -1, 5, 0, 0, 0, 0) throws IllegalArgumentException
            addTrip(0, 5, 5, 0, 0, 0, 0) throws IllegalArgumentException
            addTrip(0, 0, 5, 6, 0, 0, 0) throws IllegalArgumentException
            addTrip(0, 0, 5, 0, 32, 0, 0) throws IllegalArgumentException
            addTrip(0, 0, 5, 0, 0, 32, 0) throws IllegalArgumentException
            addTrip(0, 0, 5, 0, 0, 0, 32) throws IllegalArgumentException
            addDrive(0, 12, 1, false) throws IllegalArgumentException
            addDrive(0, 0, 12, false) throws IllegalArgumentException
            addDrive(0, 1, 1, false) throws IllegalArgumentException
            addItem(0, 3650, 0, 1, 0, 0) throws IllegalArgumentException
            addItem(0, 3, 6, 1, 0, 0) throws IllegalArgumentException
            addItem(0, 3, 0, 0, 0, 0) throws IllegalArgumentException
            addItem(0, 3, 0, 1, 5, 0) throws IllegalArgumentException
            addItem(0, 3, 0, 1, 0, 1000000000) throws IllegalArgumentException
            """);
        Script.due("not open, and no such line", HANDED_IN, """
            removeLine(0, 1) throws IndexOutOfBoundsException
            removeLine(0, -1) throws IndexOutOfBoundsException
            kindOf(0, 1) throws IndexOutOfBoundsException
            claimed(0, 1) throws IndexOutOfBoundsException
            paid(0, 1) throws IndexOutOfBoundsException
            duplicateOf(0, 1) throws IndexOutOfBoundsException
            """);
    }

    private static void handedInTwice() {
        Script.due("handed in twice", HANDED_IN, """
            handIn(0) throws IllegalStateException
            isOpen(0) = false
            giveBack(0) = 100
            handIn(0) = 100
            handIn(0) throws IllegalStateException
            handIn(1) throws NoSuchElementException
            """);
    }

    private static void givenBackWhileOpen() {
        Script.due("given back while open", ONE_REPORT, """
            giveBack(0) throws IllegalStateException
            addItem(0, 3, 0, 100, 0, 7) = 0
            giveBack(0) throws IllegalStateException
            isOpen(0) = true
            handIn(0) = 100
            giveBack(0) = 100
            giveBack(0) throws IllegalStateException
            giveBack(1) throws NoSuchElementException
            """);
    }

    private static void sameSites() {
        Script.due("both sites are the same", ONE_REPORT, """
            setRoad(0, 1, 10)
            setRoad(0, 0, 5) throws IllegalArgumentException
            setRoad(11, 11, 0) throws IllegalArgumentException
            addDrive(0, 0, 0, false) throws IllegalArgumentException
            addDrive(0, 11, 11, true) throws IllegalArgumentException
            addDrive(1, 0, 0, false) throws NoSuchElementException
            distance(0, 0) = 0
            distance(11, 11) = 0
            via(0, 0) = -1
            via(11, 11) = -1
            """);
    }

    private static void noWay() {
        Script.due("there is no way between the sites", ONE_REPORT, """
            setRoad(0, 1, 10)
            setRoad(2, 3, 10)
            addDrive(0, 1, 2, false) throws IllegalStateException
            addDrive(0, 3, 0, true) throws IllegalStateException
            addDrive(0, 12, 0, true) throws IllegalArgumentException
            addDrive(1, 1, 2, true) throws NoSuchElementException
            setRoad(1, 2, 1)
            addDrive(0, 3, 0, true) = 0
            setRoad(1, 2, 0) = 1
            addDrive(0, 3, 0, true) throws IllegalStateException
            lines(0) = 1
            """);
    }

    private static void noRateOnTheDay() {
        Script.due("the currency has no rate on that day", ONE_REPORT, """
            addItem(0, 3649, 0, 1, 4, 0) throws IllegalStateException
            setExchange(4, 3649, 20000) = 0
            addItem(0, 3648, 0, 1, 4, 0) throws IllegalStateException
            addItem(0, 3649, 0, 1, 4, 0) = 0
            addItem(0, 3649, 0, 1, 3, 0) throws IllegalStateException
            addItem(0, 3648, 0, 1, 4, -1) throws IllegalArgumentException
            addItem(1, 3648, 0, 1, 4, 0) throws NoSuchElementException
            setExchange(4, 10, 20000) = 0
            addItem(0, 9, 0, 1, 4, 0) throws IllegalStateException
            addItem(0, 10, 0, 1, 4, 0) = 1
            addItem(0, 3648, 0, 1, 4, 0) = 2
            addItem(0, 0, 0, 1, 0, 0) = 3
            lines(0) = 4
            """);
    }

    private static void noSuchReportComesFirst() {
        Script.due("no such report, and another argument out of its range", ONE_REPORT, """
            addItem(0, 3, 0, 100, 0, 7)
            addTrip(1, 5, 5, 6, 32, 32, 32) throws NoSuchElementException
            addTrip(-1, -1, 5, 0, 0, 0, 0) throws NoSuchElementException
            addDrive(1, 0, 0, true) throws NoSuchElementException
            addDrive(-1, 12, -1, true) throws NoSuchElementException
            addItem(1, 3650, 6, 0, 5, -1) throws NoSuchElementException
            addItem(-1, -1, -1, -1, -1, -1) throws NoSuchElementException
            removeLine(1, 1) throws NoSuchElementException
            removeLine(-1, -1) throws NoSuchElementException
            kindOf(1, 1) throws NoSuchElementException
            kindOf(-1, -1) throws NoSuchElementException
            claimed(1, 1) throws NoSuchElementException
            claimed(-1, -1) throws NoSuchElementException
            paid(1, 1) throws NoSuchElementException
            paid(-1, -1) throws NoSuchElementException
            duplicateOf(1, 1) throws NoSuchElementException
            duplicateOf(-1, -1) throws NoSuchElementException
            lines(0) = 1
            """);
    }
}
