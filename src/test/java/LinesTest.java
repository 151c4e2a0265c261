/** Promises 16 to 19: lines that are added and removed, with what they claim (24) and are paid (25). */
public final class LinesTest {
    private static final int MIN = Integer.MIN_VALUE;
    private static final int MAX = Integer.MAX_VALUE;

    public static void main(String[] args) {
        promise16AddTrip();
        promise16Refuses();
        promise16Claims();
        promise17AddDrive();
        promise18AddItem();
        promise18Refuses();
        promise18Claims();
        promise19RemoveLine();
        fullReports();
        Check.end("LinesTest");
    }

    private static ExpenseDesk deskWithReport() {
        ExpenseDesk desk = new ExpenseDesk();
        desk.addEmployee(0);
        desk.openReport(0);
        return desk;
    }

    private static void promise16AddTrip() {
        ExpenseDesk desk = deskWithReport();
        Check.due("first", 0, desk.addTrip(0, 0, 1, 0, 0, 0, 0));
        Check.due("the longest", 1, desk.addTrip(0, 5, 43205, 5, 31, 31, 31));
        Check.due("the last minute", 2, desk.addTrip(0, 5255999, 5256000, 0, 0, 0, 0));
        Check.due("the longest to the end", 3, desk.addTrip(0, 5212800, 5256000, 0, 0, 0, 0));
        Check.due("three lines and one", 4, desk.lines(0));
        Check.due("kind", ExpenseDesk.TRIP, desk.kindOf(0, 3));
    }

    private static void promise16Refuses() {
        ExpenseDesk desk = deskWithReport();
        desk.addItem(0, 0, 0, 1, 0, 0);
        int[][] bad = {{-1, 5, 0, 0, 0, 0}, {0, 0, 0, 0, 0, 0}, {7, 6, 0, 0, 0, 0}, {0, 43201, 0, 0, 0, 0},
            {5255999, 5256001, 0, 0, 0, 0}, {5256000, 5256001, 0, 0, 0, 0}, {5256000, 5256000, 0, 0, 0, 0},
            {0, 5, -1, 0, 0, 0}, {0, 5, 6, 0, 0, 0}, {0, 5, 0, -1, 0, 0}, {0, 5, 0, 32, 0, 0},
            {0, 5, 0, 0, -1, 0}, {0, 5, 0, 0, 32, 0}, {0, 5, 0, 0, 0, -1}, {0, 5, 0, 0, 0, 32},
            {0, MAX, 0, 0, 0, 0}, {MIN, 5, 0, 0, 0, 0}, {MAX, MIN, 0, 0, 0, 0}, {MIN, MAX, 0, 0, 0, 0},
            {MAX, MAX, 0, 0, 0, 0}, {MAX - 1, MAX, 0, 0, 0, 0}, {0, MIN, 0, 0, 0, 0}, {0, 5, MAX, 0, 0, 0},
            {0, 5, 0, MAX, 0, 0}, {0, 5, 0, 0, MAX, 0}, {0, 5, 0, 0, 0, MAX}, {0, 5, MIN, MIN, MIN, MIN}};
        Check.refusedEach("addTrip ", Check.ARGUMENT, bad, b -> desk.addTrip(0, b[0], b[1], b[2], b[3], b[4], b[5]));
        Check.refusedEach("no report ", Check.ELEMENT, bad, b -> desk.addTrip(1, b[0], b[1], b[2], b[3], b[4], b[5]));
        Check.refused("report -1", Check.ELEMENT, () -> desk.addTrip(-1, 0, 5, 0, 0, 0, 0));
        Check.refused("report MIN", Check.ELEMENT, () -> desk.addTrip(MIN, 0, 5, 0, 0, 0, 0));
        desk.handIn(0);
        Check.refused("not open", Check.STATE, () -> desk.addTrip(0, 0, 5, 0, 0, 0, 0));
        Check.refused("not open, to not after from", Check.ARGUMENT, () -> desk.addTrip(0, 5, 5, 0, 0, 0, 0));
        Check.due("no line came", 1, desk.lines(0));
    }

    private static void trip(int want, int rate, int from, int to, int breakfasts, int lunches, int dinners) {
        ExpenseDesk desk = deskWithReport();
        desk.setDayRate(1, rate);
        desk.addTrip(0, from, to, 1, breakfasts, lunches, dinners);
        String what = "trip " + from + " to " + to + " at " + rate;
        Check.due(what + " claims", want, desk.claimed(0, 0));
        Check.due(what + " is paid", want, desk.paid(0, 0));
    }

    private static void promise16Claims() {
        trip(0, 2801, 0, 479, 0, 0, 0);
        trip(1400, 2801, 0, 480, 0, 0, 0);
        trip(1400, 2801, 0, 1439, 0, 0, 0);
        trip(2801, 2801, 0, 1440, 0, 0, 0);
        trip(1400, 2801, 1, 1440, 0, 0, 0);
        trip(2801, 2801, 1440, 2880, 0, 0, 0);
        // Each half is rounded down by itself.
        trip(2800, 2801, 960, 1920, 0, 0, 0);
        trip(0, 2801, 961, 1919, 0, 0, 0);
        trip(1400, 2801, 961, 1920, 0, 0, 0);
        trip(5602, 2801, 1000, 4320, 0, 0, 0);
        // So is each meal.
        trip(5 * 99 - 2 * 19 - 39 - 2 * 39, 99, 0, 7200, 2, 1, 2);
        trip(5 * 4 - 3 - 3, 4, 0, 7200, 31, 3, 3);
        trip(5 * 1000 - 200, 1000, 0, 7200, 1, 0, 0);
        trip(5 * 1000 - 400, 1000, 0, 7200, 0, 1, 0);
        trip(5 * 1000 - 400, 1000, 0, 7200, 0, 0, 1);
        trip(0, 1000, 0, 1440, 1, 1, 1);
        trip(0, 1000, 0, 1440, 1, 1, 2);
        trip(0, 100000, 0, 1, 31, 31, 31);
        trip(3000000, 100000, 0, 43200, 0, 0, 0);
        trip(29 * 100000 + 2 * 50000, 100000, 720, 43920, 0, 0, 0);
        trip(29 * 100000 + 50000, 100000, 1040 + 1440, 43200 + 1040 + 1440, 0, 0, 0);
        ExpenseDesk desk = deskWithReport();
        desk.addTrip(0, 0, 1440, 3, 0, 0, 0);
        desk.setDayRate(2, 70);
        Check.due("another region's rate", 0, desk.claimed(0, 0));
        desk.setDayRate(3, 50);
        Check.due("by the rate of now", 50, desk.claimed(0, 0));
    }

    private static void promise17AddDrive() {
        ExpenseDesk desk = deskWithReport();
        desk.setRoad(0, 1, 10);
        desk.setRoad(1, 11, 20);
        Check.due("first", 0, desk.addDrive(0, 0, 11, false));
        Check.due("second", 1, desk.addDrive(0, 11, 0, true));
        Check.due("kind", ExpenseDesk.DRIVE, desk.kindOf(0, 1));
        Check.due("no rate yet", 0, desk.claimed(0, 0));
        desk.setKilometreRate(7);
        Check.due("one way", 210, desk.claimed(0, 0));
        Check.due("return", 420, desk.claimed(0, 1));
        desk.setRoad(0, 11, 29);
        Check.due("a shorter way of now", 203, desk.paid(0, 0));
        desk.setRoad(0, 11, 0);
        desk.setRoad(0, 1, 0);
        Check.due("no way any more", 0, desk.claimed(0, 0));
        Check.due("no way any more", 0, desk.paid(0, 1));
        Check.refused("no way", Check.STATE, () -> desk.addDrive(0, 0, 11, true));
        int[][] bad = {{-1, 0}, {12, 0}, {0, -1}, {0, 12}, {4, 4}, {MIN, 0}, {0, MAX}, {12, 12}};
        Check.refusedEach("addDrive ", Check.ARGUMENT, bad, b -> desk.addDrive(0, b[0], b[1], true));
        Check.refusedEach("no report ", Check.ELEMENT, bad, b -> desk.addDrive(1, b[0], b[1], false));
        Check.refused("report -1", Check.ELEMENT, () -> desk.addDrive(-1, 1, 11, false));
        Check.due("no line came", 2, desk.lines(0));
        desk.handIn(0);
        Check.refused("not open", Check.STATE, () -> desk.addDrive(0, 1, 11, false));
        Check.refused("not open, the same site", Check.ARGUMENT, () -> desk.addDrive(0, 1, 1, false));
    }

    private static void promise18AddItem() {
        ExpenseDesk desk = deskWithReport();
        desk.setExchange(4, 3649, 100000);
        Check.due("the least of all", 0, desk.addItem(0, 0, 0, 1, 0, 0));
        Check.due("the most of all", 1, desk.addItem(0, 3649, 5, 500000, 4, 999999999));
        Check.due("kind", ExpenseDesk.ITEM, desk.kindOf(0, 1));
        Check.due("the least claim", 1, desk.claimed(0, 0));
        Check.due("the greatest claim", 5000000, desk.claimed(0, 1));
    }

    private static void promise18Refuses() {
        ExpenseDesk desk = deskWithReport();
        desk.setExchange(1, 10, 5);
        int[][] bad = {{-1, 0, 1, 0, 0}, {3650, 0, 1, 0, 0}, {0, -1, 1, 0, 0}, {0, 6, 1, 0, 0}, {0, 0, 0, 0, 0},
            {0, 0, -1, 0, 0}, {0, 0, 500001, 0, 0}, {0, 0, 1, -1, 0}, {0, 0, 1, 5, 0}, {0, 0, 1, 0, -1},
            {0, 0, 1, 0, 1000000000}, {MIN, 0, 1, 0, 0}, {MAX, 0, 1, 0, 0}, {0, MIN, 1, 0, 0}, {0, MAX, 1, 0, 0},
            {0, 0, MIN, 0, 0}, {0, 0, MAX, 0, 0}, {0, 0, 1, MIN, 0}, {0, 0, 1, MAX, 0}, {0, 0, 1, 0, MIN},
            {0, 0, 1, 0, MAX}, {9, 0, 1, 1, -1}};
        Check.refusedEach("addItem ", Check.ARGUMENT, bad, b -> desk.addItem(0, b[0], b[1], b[2], b[3], b[4]));
        Check.refusedEach("no report ", Check.ELEMENT, bad, b -> desk.addItem(1, b[0], b[1], b[2], b[3], b[4]));
        Check.refused("report -1", Check.ELEMENT, () -> desk.addItem(-1, 0, 0, 1, 0, 0));
        Check.refused("no rate yet on that day", Check.STATE, () -> desk.addItem(0, 9, 0, 1, 1, 0));
        Check.refused("no rate at all", Check.STATE, () -> desk.addItem(0, 9, 0, 1, 2, 0));
        Check.due("no line came", 0, desk.lines(0));
        Check.due("a rate from that day on", 0, desk.addItem(0, 10, 0, 1, 1, 0));
        desk.handIn(0);
        Check.refused("not open", Check.STATE, () -> desk.addItem(0, 0, 0, 1, 0, 0));
        Check.refused("not open, a wrong day", Check.ARGUMENT, () -> desk.addItem(0, 3650, 0, 1, 0, 0));
    }

    private static void promise18Claims() {
        ExpenseDesk desk = deskWithReport();
        desk.setExchange(1, 0, 5000);
        desk.setExchange(1, 2, 4999);
        desk.setExchange(1, 4, 1);
        desk.addItem(0, 0, 0, 1, 1, 0);
        desk.addItem(0, 1, 0, 3, 1, 0);
        desk.addItem(0, 2, 0, 1, 1, 0);
        desk.addItem(0, 3, 0, 500000, 1, 0);
        desk.addItem(0, 9, 0, 4999, 1, 0);
        desk.addItem(0, 9, 0, 5000, 1, 0);
        int[] want = {1, 2, 0, 249950, 0, 1};
        for (int line = 0; line < want.length; line++) {
            Check.due("line " + line + " turned into the home currency", want[line], desk.claimed(0, line));
        }
        desk.setExchange(1, 1, 10000);
        Check.due("by the rate that is told now", 3, desk.claimed(0, 1));
        Check.due("the day before keeps its own", 1, desk.claimed(0, 0));
    }

    private static void promise19RemoveLine() {
        ExpenseDesk desk = deskWithReport();
        desk.setRoad(0, 1, 5);
        desk.addItem(0, 0, 0, 60, 0, 0);
        desk.addDrive(0, 0, 1, false);
        desk.addItem(0, 0, 0, 70, 0, 0);
        desk.addTrip(0, 0, 5, 0, 0, 0, 0);
        desk.setLimit(0, 0, 100);
        Check.due("what is left", 40, desk.paid(0, 2));
        for (int bad : new int[] {-1, 4, MIN, MAX}) {
            Check.refused("line " + bad, Check.INDEX, () -> desk.removeLine(0, bad));
            Check.refused("no report, line " + bad, Check.ELEMENT, () -> desk.removeLine(1, bad));
        }
        Check.refused("report -1", Check.ELEMENT, () -> desk.removeLine(-1, 0));
        Check.due("three are left", 3, desk.removeLine(0, 0));
        Check.due("the drive went down", ExpenseDesk.DRIVE, desk.kindOf(0, 0));
        Check.due("the item went down", ExpenseDesk.ITEM, desk.kindOf(0, 1));
        Check.due("the trip went down", ExpenseDesk.TRIP, desk.kindOf(0, 2));
        Check.due("more of the limit is left", 70, desk.paid(0, 1));
        Check.refused("the old last line", Check.INDEX, () -> desk.kindOf(0, 3));
        Check.due("a new line goes behind", 3, desk.addItem(0, 0, 0, 1, 0, 0));
        Check.due("the last one", 3, desk.removeLine(0, 3));
        desk.handIn(0);
        Check.refused("not open", Check.STATE, () -> desk.removeLine(0, 0));
        Check.refused("not open, no such line", Check.INDEX, () -> desk.removeLine(0, 3));
        Check.due("nothing went", 3, desk.lines(0));
        desk.giveBack(0);
        Check.due("two", 2, desk.removeLine(0, 2));
        Check.due("one", 1, desk.removeLine(0, 0));
        Check.due("none", 0, desk.removeLine(0, 0));
        Check.refused("no line any more", Check.INDEX, () -> desk.removeLine(0, 0));
    }

    private static void fullReports() {
        ExpenseDesk desk = deskWithReport();
        desk.setRoad(0, 1, 5);
        for (int line = 0; line < 20; line++) {
            Check.due("line", line, desk.addItem(0, 0, 0, 1, 0, 0));
        }
        Check.refused("a 21st trip", Check.STATE, () -> desk.addTrip(0, 0, 5, 0, 0, 0, 0));
        Check.refused("a 21st drive", Check.STATE, () -> desk.addDrive(0, 0, 1, false));
        Check.refused("a 21st item", Check.STATE, () -> desk.addItem(0, 0, 0, 1, 0, 0));
        Check.refused("a 21st trip of no region", Check.ARGUMENT, () -> desk.addTrip(0, 0, 5, 6, 0, 0, 0));
        Check.refused("a 21st drive to itself", Check.ARGUMENT, () -> desk.addDrive(0, 1, 1, false));
        Check.refused("a 21st item of nothing", Check.ARGUMENT, () -> desk.addItem(0, 0, 0, 0, 0, 0));
        Check.due("twenty", 20, desk.lines(0));
        Check.due("one goes", 19, desk.removeLine(0, 7));
        Check.due("one comes", 19, desk.addTrip(0, 0, 5, 0, 0, 0, 0));
        Check.due("the total of twenty", 19, desk.total(0));
    }
}
