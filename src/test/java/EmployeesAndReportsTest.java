/** Promises 11 to 15: employees, and reports that are opened, handed in and given back. */
public final class EmployeesAndReportsTest {
    private static final int MIN = Integer.MIN_VALUE;
    private static final int MAX = Integer.MAX_VALUE;

    public static void main(String[] args) {
        promise11AddEmployee();
        promise12SetGrade();
        promise13OpenReport();
        promise14HandIn();
        promise14KeepsAmounts();
        promise15GiveBack();
        Check.end("EmployeesAndReportsTest");
    }

    private static void promise11AddEmployee() {
        ExpenseDesk desk = new ExpenseDesk();
        for (int bad : new int[] {-1, 4, MIN, MAX}) {
            Check.refused("addEmployee " + bad, Check.ARGUMENT, () -> desk.addEmployee(bad));
        }
        for (int employee = 0; employee < 8; employee++) {
            Check.due("addEmployee", employee, desk.addEmployee(employee % 4));
        }
        Check.refused("a ninth", Check.STATE, () -> desk.addEmployee(0));
        Check.refused("a ninth of no grade", Check.ARGUMENT, () -> desk.addEmployee(4));
        for (int employee = 0; employee < 8; employee++) {
            Check.due("its grade", employee % 4, desk.setGrade(employee, 0));
        }
        Check.refused("no ninth", Check.ELEMENT, () -> desk.handedIn(8));
    }

    private static void promise12SetGrade() {
        ExpenseDesk desk = new ExpenseDesk();
        Check.refused("no employee yet", Check.ELEMENT, () -> desk.setGrade(0, 0));
        desk.addEmployee(3);
        desk.addEmployee(2);
        Check.due("before", 3, desk.setGrade(0, 1));
        Check.due("before", 1, desk.setGrade(0, 0));
        Check.due("the other's", 2, desk.setGrade(1, 2));
        for (int bad : new int[] {-1, 4, MIN, MAX}) {
            Check.refused("grade " + bad, Check.ARGUMENT, () -> desk.setGrade(0, bad));
            Check.refused("no employee first", Check.ELEMENT, () -> desk.setGrade(2, bad));
            int employee = bad == 4 ? 2 : bad;
            Check.refused("employee " + employee, Check.ELEMENT, () -> desk.setGrade(employee, 0));
        }
        Check.due("as before the refused calls", 0, desk.setGrade(0, 3));
        desk.setLimit(0, 3, 50);
        desk.openReport(0);
        desk.addItem(0, 0, 0, 80, 0, 0);
        Check.due("the grade's limit", 50, desk.paid(0, 0));
        desk.setGrade(0, 2);
        Check.due("another grade without one", 80, desk.paid(0, 0));
    }

    private static void promise13OpenReport() {
        ExpenseDesk desk = new ExpenseDesk();
        Check.refused("no employee yet", Check.ELEMENT, () -> desk.openReport(0));
        Check.due("still none", 0, desk.reports());
        desk.addEmployee(0);
        desk.addEmployee(0);
        for (int bad : new int[] {-1, 2, MIN, MAX}) {
            Check.refused("employee " + bad, Check.ELEMENT, () -> desk.openReport(bad));
        }
        for (int report = 0; report < 16; report++) {
            Check.due("openReport", report, desk.openReport(report % 2));
            Check.due("is open", true, desk.isOpen(report));
            Check.due("has no lines", 0, desk.lines(report));
        }
        Check.refused("a seventeenth", Check.STATE, () -> desk.openReport(0));
        Check.refused("a seventeenth of nobody", Check.ELEMENT, () -> desk.openReport(2));
        Check.due("sixteen", 16, desk.reports());
    }

    private static void promise14HandIn() {
        ExpenseDesk desk = new ExpenseDesk();
        Check.refused("no report yet", Check.ELEMENT, () -> desk.handIn(0));
        desk.addEmployee(0);
        desk.openReport(0);
        for (int bad : new int[] {-1, 1, MIN, MAX}) {
            Check.refused("report " + bad, Check.ELEMENT, () -> desk.handIn(bad));
        }
        Check.refused("no line", Check.STATE, () -> desk.handIn(0));
        Check.due("still open", true, desk.isOpen(0));
        desk.addItem(0, 0, 0, 100, 0, 0);
        desk.removeLine(0, 0);
        Check.refused("no line any more", Check.STATE, () -> desk.handIn(0));
        desk.addItem(0, 0, 0, 100, 0, 0);
        desk.addItem(0, 0, 0, 70, 0, 0);
        desk.setLimit(0, 0, 120);
        Check.due("its total", 120, desk.handIn(0));
        Check.due("not open any more", false, desk.isOpen(0));
        Check.refused("twice", Check.STATE, () -> desk.handIn(0));
        Check.due("has its lines", 2, desk.lines(0));
    }

    private static void promise14KeepsAmounts() {
        ExpenseDesk desk = new ExpenseDesk();
        desk.addEmployee(1);
        desk.openReport(0);
        desk.setDayRate(2, 1000);
        desk.setKilometreRate(10);
        desk.setRoad(0, 1, 30);
        desk.setExchange(1, 0, 20000);
        desk.setLimit(3, 1, 150);
        desk.addTrip(0, 0, 1440, 2, 1, 0, 0);
        desk.addDrive(0, 0, 1, true);
        desk.addItem(0, 0, 3, 50, 1, 0);
        desk.addItem(0, 0, 3, 90, 0, 0);
        Check.due("handIn", 800 + 600 + 100 + 50, desk.handIn(0));
        desk.setDayRate(2, 5);
        desk.setKilometreRate(5);
        desk.setRoad(0, 1, 0);
        desk.setExchange(1, 0, 5);
        desk.setLimit(3, 1, 5);
        desk.setGrade(0, 2);
        int[] claimed = {800, 600, 100, 90};
        int[] paid = {800, 600, 100, 50};
        for (int line = 0; line < 4; line++) {
            Check.due("claim kept", claimed[line], desk.claimed(0, line));
            Check.due("payment kept", paid[line], desk.paid(0, line));
        }
        Check.due("total kept", 1550, desk.total(0));
        Check.due("handedIn kept", 1550, desk.handedIn(0));
        Check.due("totalOf kept", 150, desk.totalOf(0, 3));
    }

    private static void promise15GiveBack() {
        ExpenseDesk desk = new ExpenseDesk();
        Check.refused("no report yet", Check.ELEMENT, () -> desk.giveBack(0));
        desk.addEmployee(0);
        desk.openReport(0);
        Check.refused("open", Check.STATE, () -> desk.giveBack(0));
        desk.setExchange(1, 0, 10000);
        desk.addItem(0, 0, 0, 100, 1, 0);
        desk.handIn(0);
        desk.setExchange(1, 0, 30000);
        for (int bad : new int[] {-1, 1, MIN, MAX}) {
            Check.refused("report " + bad, Check.ELEMENT, () -> desk.giveBack(bad));
        }
        Check.due("the total that was kept", 100, desk.giveBack(0));
        Check.due("open again", true, desk.isOpen(0));
        Check.due("by the settings of now again", 300, desk.total(0));
        Check.refused("given back already", Check.STATE, () -> desk.giveBack(0));
        Check.due("takes lines again", 1, desk.addItem(0, 0, 0, 7, 0, 0));
        Check.due("nothing is handed in", 0, desk.handedIn(0));
        Check.due("handed in again", 307, desk.handIn(0));
    }
}
