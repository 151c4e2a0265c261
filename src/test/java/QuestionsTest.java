/** Promises 20 to 31: questions about reports. */
public final class QuestionsTest {
    private static final int MIN = Integer.MIN_VALUE;
    private static final int MAX = Integer.MAX_VALUE;

    public static void main(String[] args) {
        promise20Reports();
        promises21To23();
        promises24And25();
        promise25Limits();
        promise26Total();
        promise27HandedIn();
        promise28TotalOf();
        promise29DuplicateOf();
        promise29Edges();
        promise29Settings();
        promise29Receipts();
        promise30Duplicates();
        promise31EditDistance();
        noSuchReportOrLine();
        greatestTotals();
        Check.end("QuestionsTest");
    }

    private static ExpenseDesk deskWithReports(int employees, int... owners) {
        ExpenseDesk desk = new ExpenseDesk();
        for (int i = 0; i < employees; i++) {
            desk.addEmployee(0);
        }
        for (int owner : owners) {
            desk.openReport(owner);
        }
        return desk;
    }

    private static void promise20Reports() {
        ExpenseDesk desk = deskWithReports(1);
        Check.due("none", 0, desk.reports());
        desk.openReport(0);
        Check.due("one", 1, desk.reports());
        desk.openReport(0);
        desk.addItem(0, 0, 0, 1, 0, 0);
        desk.handIn(0);
        Check.due("two, open or not", 2, desk.reports());
    }

    private static void promises21To23() {
        ExpenseDesk desk = deskWithReports(1, 0, 0);
        desk.setRoad(0, 1, 1);
        desk.addItem(1, 0, 0, 1, 0, 0);
        desk.addTrip(1, 0, 1, 0, 0, 0, 0);
        desk.addDrive(1, 0, 1, false);
        desk.handIn(1);
        Check.due("open", true, desk.isOpen(0));
        Check.due("handed in", false, desk.isOpen(1));
        Check.due("no lines", 0, desk.lines(0));
        Check.due("three lines", 3, desk.lines(1));
        Check.due("item", ExpenseDesk.ITEM, desk.kindOf(1, 0));
        Check.due("trip", ExpenseDesk.TRIP, desk.kindOf(1, 1));
        Check.due("drive", ExpenseDesk.DRIVE, desk.kindOf(1, 2));
    }

    private static void promises24And25() {
        ExpenseDesk desk = deskWithReports(1, 0);
        desk.setRoad(0, 1, 9);
        desk.setKilometreRate(10);
        desk.setDayRate(0, 300);
        desk.setLimit(-1, -1, 50);
        desk.addItem(0, 0, 0, 80, 0, 0);
        desk.addDrive(0, 0, 1, true);
        desk.addTrip(0, 0, 1440, 0, 0, 0, 0);
        Check.due("an item claims all", 80, desk.claimed(0, 0));
        Check.due("an item is paid up to the limit", 50, desk.paid(0, 0));
        Check.due("a drive claims", 180, desk.claimed(0, 1));
        Check.due("a drive has no limit", 180, desk.paid(0, 1));
        Check.due("a trip claims", 300, desk.claimed(0, 2));
        Check.due("a trip has no limit", 300, desk.paid(0, 2));
    }

    private static void promise25Limits() {
        ExpenseDesk desk = deskWithReports(1, 0, 0);
        desk.setLimit(1, 0, 100);
        desk.addItem(0, 5, 1, 30, 0, 0);
        desk.addItem(0, 5, 2, 500, 0, 0);
        desk.addItem(0, 6, 1, 90, 0, 0);
        desk.addItem(0, 5, 1, 80, 0, 0);
        desk.addItem(0, 5, 1, 10, 0, 0);
        desk.addItem(0, 6, 1, 9, 0, 0);
        desk.addItem(1, 5, 1, 100, 0, 0);
        int[] want = {30, 500, 90, 70, 0, 9};
        for (int line = 0; line < want.length; line++) {
            Check.due("paid of line " + line, want[line], desk.paid(0, line));
        }
        Check.due("another report has its own", 100, desk.paid(1, 0));
        desk.setLimit(1, 0, 115);
        Check.due("what is left by now", 5, desk.paid(0, 4));
        desk.setLimit(1, 0, 0);
        Check.due("a limit of 0", 0, desk.paid(0, 0));
        desk.setLimit(1, 0, ExpenseDesk.NONE);
        Check.due("no limit", 80, desk.paid(0, 3));
    }

    private static void promise26Total() {
        ExpenseDesk desk = deskWithReports(1, 0);
        Check.due("no lines", 0, desk.total(0));
        desk.setDayRate(0, 300);
        desk.setLimit(0, -1, 50);
        desk.addItem(0, 0, 0, 80, 0, 0);
        desk.addItem(0, 1, 0, 20, 0, 0);
        desk.addTrip(0, 0, 1440, 0, 0, 0, 0);
        Check.due("what is paid", 370, desk.total(0));
        desk.setLimit(0, -1, 60);
        Check.due("by the settings of now", 380, desk.total(0));
    }

    private static void promise27HandedIn() {
        ExpenseDesk desk = deskWithReports(2, 0, 1, 0, 0);
        Check.due("none", 0, desk.handedIn(0));
        for (int report = 0; report < 4; report++) {
            desk.addItem(report, 0, 0, 1 << report, 0, 0);
        }
        desk.handIn(0);
        desk.handIn(1);
        Check.due("one", 1, desk.handedIn(0));
        desk.handIn(3);
        Check.due("two, not the open one", 9, desk.handedIn(0));
        Check.due("the other's", 2, desk.handedIn(1));
        desk.giveBack(0);
        Check.due("given back", 8, desk.handedIn(0));
        for (int bad : new int[] {-1, 2, MIN, MAX}) {
            Check.refused("employee " + bad, Check.ELEMENT, () -> desk.handedIn(bad));
        }
    }

    private static void promise28TotalOf() {
        ExpenseDesk desk = deskWithReports(2, 0, 1, 0);
        desk.setDayRate(0, 1000);
        desk.setLimit(3, -1, 50);
        desk.addItem(0, 0, 3, 80, 0, 0);
        desk.addItem(0, 0, 4, 5, 0, 0);
        desk.addTrip(0, 0, 1440, 3, 0, 0, 0);
        desk.addItem(1, 0, 3, 7, 0, 0);
        desk.addItem(2, 0, 3, 30, 0, 0);
        Check.due("paid, not claimed", 80, desk.totalOf(0, 3));
        Check.due("another category", 5, desk.totalOf(0, 4));
        Check.due("nothing of it", 0, desk.totalOf(0, 0));
        desk.addItem(2, 0, 5, 6, 0, 0);
        Check.due("the last category", 6, desk.totalOf(0, 5));
        Check.due("another employee", 7, desk.totalOf(1, 3));
        desk.handIn(0);
        desk.setLimit(3, -1, 20);
        Check.due("kept, and by the settings of now", 70, desk.totalOf(0, 3));
        for (int bad : new int[] {-1, 6, MIN, MAX}) {
            Check.refused("category " + bad, Check.ARGUMENT, () -> desk.totalOf(0, bad));
            Check.refused("nobody, category " + bad, Check.ELEMENT, () -> desk.totalOf(2, bad));
        }
        Check.refused("employee -1", Check.ELEMENT, () -> desk.totalOf(-1, 0));
    }

    private static void promise29DuplicateOf() {
        ExpenseDesk desk = deskWithReports(2, 0, 1, 0);
        desk.addTrip(0, 0, 1440, 0, 0, 0, 0);
        desk.addItem(0, 5, 0, 100, 0, 77);
        desk.addItem(1, 5, 0, 100, 0, 77);
        desk.addItem(2, 5, 1, 100, 0, 77);
        desk.addItem(2, 5, 2, 100, 0, 7777);
        desk.addItem(2, 5, 0, 100, 0, 777);
        desk.addTrip(2, 0, 1440, 0, 0, 0, 0);
        Check.due("a trip", ExpenseDesk.NONE, desk.duplicateOf(0, 0));
        Check.due("the first item", ExpenseDesk.NONE, desk.duplicateOf(0, 1));
        Check.due("of another employee", ExpenseDesk.NONE, desk.duplicateOf(1, 0));
        Check.due("of a lower report, another category", 1, desk.duplicateOf(2, 0));
        Check.due("later ones do not count", ExpenseDesk.NONE, desk.duplicateOf(2, 1));
        Check.due("the first of three", 1, desk.duplicateOf(2, 2));
        Check.due("a trip", ExpenseDesk.NONE, desk.duplicateOf(2, 3));
        desk.removeLine(0, 1);
        Check.due("the first is gone", 200, desk.duplicateOf(2, 2));
        desk.removeLine(2, 0);
        Check.due("lines went down", 200, desk.duplicateOf(2, 1));
        Check.due("and the first is none", ExpenseDesk.NONE, desk.duplicateOf(2, 0));
        desk.openReport(0);
        desk.addItem(3, 8, 0, 100, 0, 777);
        Check.due("of the report 2, not of the other employee's", 200, desk.duplicateOf(3, 0));
        desk.removeLine(2, 0);
        desk.removeLine(2, 0);
        desk.addItem(2, 9, 0, 101, 0, 778);
        Check.due("behind a trip", 201, desk.duplicateOf(3, 0));
    }

    private static boolean like(int day, int amount, int receipt, int otherDay, int otherAmount, int otherReceipt) {
        ExpenseDesk desk = deskWithReports(1, 0);
        desk.addItem(0, day, 0, amount, 0, receipt);
        desk.addItem(0, otherDay, 0, otherAmount, 0, otherReceipt);
        return desk.duplicateOf(0, 1) == 0;
    }

    private static void promise29Edges() {
        Check.due("3 days later", true, like(10, 100, 5, 13, 100, 5));
        Check.due("4 days later", false, like(10, 100, 5, 14, 100, 5));
        Check.due("3 days earlier", true, like(10, 100, 5, 7, 100, 5));
        Check.due("4 days earlier", false, like(10, 100, 5, 6, 100, 5));
        Check.due("a hundredth of the greater, up", true, like(10, 9900, 5, 10, 10000, 5));
        Check.due("a cent more, up", false, like(10, 9899, 5, 10, 10000, 5));
        Check.due("a hundredth of the greater, down", true, like(10, 10000, 5, 10, 9900, 5));
        Check.due("a cent more, down", false, like(10, 10000, 5, 10, 9899, 5));
        Check.due("of the greater, not of the less", true, like(10, 10000, 5, 10, 10101, 5));
        Check.due("of the greater, not of the less", false, like(10, 10000, 5, 10, 10102, 5));
        Check.due("one cent of 99", false, like(10, 98, 5, 10, 99, 5));
        Check.due("one cent of 100", true, like(10, 99, 5, 10, 100, 5));
        Check.due("the most", true, like(10, 500000, 5, 10, 495000, 5));
    }

    private static void promise29Settings() {
        ExpenseDesk desk = deskWithReports(1, 0, 0);
        desk.setExchange(1, 0, 10000);
        desk.setExchange(2, 0, 1);
        desk.addItem(0, 5, 0, 1000, 1, 5);
        desk.addItem(1, 5, 0, 1000, 0, 5);
        desk.setLimit(0, -1, 10);
        Check.due("claims count, not payments", 0, desk.duplicateOf(1, 0));
        desk.setExchange(1, 0, 20000);
        Check.due("by the settings of now", ExpenseDesk.NONE, desk.duplicateOf(1, 0));
        desk.setExchange(1, 0, 10000);
        desk.handIn(0);
        desk.setExchange(1, 0, 20000);
        Check.due("what was kept", 0, desk.duplicateOf(1, 0));
        desk.giveBack(0);
        Check.due("given back", ExpenseDesk.NONE, desk.duplicateOf(1, 0));
        desk.addItem(1, 5, 0, 2, 2, 6);
        desk.addItem(1, 5, 0, 1, 2, 6);
        Check.due("claims of 0 are the same", 101, desk.duplicateOf(1, 2));
        desk.handIn(1);
        desk.setExchange(1, 0, 10000);
        Check.due("asked of a report that is handed in", 0, desk.duplicateOf(1, 0));
    }

    /** The near check of the duplicates must agree with the edit distance. */
    private static void promise29Receipts() {
        int[] receipts = {0, 1, 5, 9, 10, 11, 15, 19, 50, 51, 90, 100, 101, 105, 110, 111, 115, 150, 151, 500, 501, 505,
            510, 1000, 1001, 1005, 1010, 1100, 1110, 1111, 10000, 10001, 10100, 11000, 12345, 12354, 13245, 1234, 2345,
            12334, 123345, 112345, 100000000, 10000000, 100000001, 999999999, 99999999, 989999999, 899999999, 999999998,
            989999998, 123456789, 23456789, 12345678, 123456798};
        for (int one : receipts) {
            for (int other : receipts) {
                boolean near = editDistance(Integer.toString(one), Integer.toString(other)) <= 1;
                Check.due("receipts " + one + " and " + other, near, like(0, 100, one, 0, 100, other));
            }
        }
    }

    private static void promise30Duplicates() {
        ExpenseDesk desk = deskWithReports(2, 0, 1, 0);
        Check.due("no lines", 0, desk.duplicates(0));
        desk.addItem(0, 0, 0, 100, 0, 5);
        desk.addItem(0, 0, 0, 100, 0, 6);
        desk.addItem(1, 0, 0, 100, 0, 5);
        desk.addItem(2, 1, 0, 100, 0, 55);
        desk.addItem(2, 1, 0, 300, 0, 55);
        desk.addTrip(2, 0, 1440, 0, 0, 0, 0);
        desk.addItem(2, 1, 0, 300, 0, 557);
        Check.due("within a report", 1, desk.duplicates(0));
        Check.due("another employee", 0, desk.duplicates(1));
        Check.due("of an earlier report, and within", 2, desk.duplicates(2));
        desk.handIn(2);
        desk.handIn(0);
        Check.due("handed in", 2, desk.duplicates(2));
        for (int bad : new int[] {-1, 3, MIN, MAX}) {
            Check.refused("report " + bad, Check.ELEMENT, () -> desk.duplicates(bad));
        }
    }

    /** Plain and slow, written apart from the class: a table over all the digits. */
    private static int editDistance(String one, String other) {
        int[][] table = new int[one.length() + 1][other.length() + 1];
        for (int i = 0; i <= one.length(); i++) {
            for (int j = 0; j <= other.length(); j++) {
                if (i == 0 || j == 0) {
                    table[i][j] = i + j;
                } else {
                    int change = one.charAt(i - 1) == other.charAt(j - 1) ? 0 : 1;
                    table[i][j] = Math.min(table[i - 1][j - 1] + change,
                        Math.min(table[i - 1][j], table[i][j - 1]) + 1);
                }
            }
        }
        return table[one.length()][other.length()];
    }

    private static void promise31EditDistance() {
        ExpenseDesk desk = new ExpenseDesk();
        int[][] due = {{0, 0, 0}, {0, 10, 1}, {0, 5, 1}, {0, 100, 2}, {0, 999999999, 9}, {123456, 124356, 2},
            {12345, 23456, 2}, {1000, 1, 3}, {100000000, 1, 8}, {123456789, 987654321, 8}, {999999999, 999999999, 0},
            {111111111, 999999999, 9}, {12, 123456789, 7}, {6789, 123456789, 5}, {1020304, 12034, 2}};
        for (int[] d : due) {
            Check.due("editDistance " + d[0] + " " + d[1], d[2], desk.editDistance(d[0], d[1]));
            Check.due("editDistance " + d[1] + " " + d[0], d[2], desk.editDistance(d[1], d[0]));
        }
        int[][] bad = {{-1, 0}, {0, -1}, {1000000000, 0}, {0, 1000000000}, {MIN, 0}, {0, MIN}, {MAX, 0}, {0, MAX}};
        Check.refusedEach("editDistance ", Check.ARGUMENT, bad, b -> desk.editDistance(b[0], b[1]));
        java.util.Random random = new java.util.Random(31);
        for (int i = 0; i < 400; i++) {
            int one = random.nextInt(1000000000);
            int other = random.nextInt(1000000000);
            Check.due("editDistance " + one + " " + other,
                editDistance(Integer.toString(one), Integer.toString(other)), desk.editDistance(one, other));
        }
    }

    private static void noSuchReportOrLine() {
        ExpenseDesk desk = deskWithReports(1, 0);
        desk.addItem(0, 0, 0, 1, 0, 0);
        for (int bad : new int[] {-1, 1, MIN, MAX}) {
            Check.refused("isOpen " + bad, Check.ELEMENT, () -> desk.isOpen(bad) ? 1 : 0);
            Check.refused("lines " + bad, Check.ELEMENT, () -> desk.lines(bad));
            Check.refused("total " + bad, Check.ELEMENT, () -> desk.total(bad));
            for (int line : new int[] {0, -1}) {
                Check.refused("kindOf " + bad, Check.ELEMENT, () -> desk.kindOf(bad, line));
                Check.refused("claimed " + bad, Check.ELEMENT, () -> desk.claimed(bad, line));
                Check.refused("paid " + bad, Check.ELEMENT, () -> desk.paid(bad, line));
                Check.refused("duplicateOf " + bad, Check.ELEMENT, () -> desk.duplicateOf(bad, line));
            }
            Check.refused("kindOf line " + bad, Check.INDEX, () -> desk.kindOf(0, bad));
            Check.refused("claimed line " + bad, Check.INDEX, () -> desk.claimed(0, bad));
            Check.refused("paid line " + bad, Check.INDEX, () -> desk.paid(0, bad));
            Check.refused("duplicateOf line " + bad, Check.INDEX, () -> desk.duplicateOf(0, bad));
        }
    }

    private static void greatestTotals() {
        ExpenseDesk desk = deskWithReports(1);
        desk.setKilometreRate(500);
        for (int site = 0; site < 11; site++) {
            desk.setRoad(site, site + 1, 500);
        }
        for (int report = 0; report < 16; report++) {
            desk.openReport(0);
            for (int line = 0; line < 20; line++) {
                desk.addDrive(report, 0, 11, true);
            }
            Check.due("the greatest total", 110000000, desk.handIn(report));
        }
        Check.due("all that is handed in", 1760000000, desk.handedIn(0));
    }
}
