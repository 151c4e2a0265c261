/** Promises 1 to 10: a new desk and its settings. */
public final class SettingsTest {
    private static final int MIN = Integer.MIN_VALUE;
    private static final int MAX = Integer.MAX_VALUE;

    public static void main(String[] args) {
        promise1NewDesk();
        promise2SetRoad();
        promise3SetDayRate();
        promise4SetKilometreRate();
        promise5SetExchange();
        promise6SetLimit();
        promise7Distance();
        promise8Via();
        promise9Exchange();
        promise10Limit();
        constants();
        desksAreApart();
        Check.end("SettingsTest");
    }

    private static void promise1NewDesk() {
        ExpenseDesk desk = new ExpenseDesk();
        Check.due("new: reports", 0, desk.reports());
        for (int region = 0; region < 6; region++) {
            Check.due("new: day rate " + region, 0, desk.setDayRate(region, 1));
        }
        Check.due("new: kilometre rate", 0, desk.setKilometreRate(1));
        for (int a = 0; a < 12; a++) {
            for (int b = 0; b < 12; b++) {
                Check.due("new: distance " + a + " " + b, a == b ? 0 : ExpenseDesk.NONE, desk.distance(a, b));
            }
        }
        for (int currency = 0; currency < 5; currency++) {
            Check.due("new: exchange " + currency, currency == 0 ? 10000 : -1, desk.exchange(currency, 3649));
        }
        for (int category = 0; category < 6; category++) {
            for (int grade = 0; grade < 4; grade++) {
                Check.due("new: limit", ExpenseDesk.NONE, desk.limit(category, grade));
            }
        }
        Check.refused("new: employee 0", Check.ELEMENT, () -> desk.handedIn(0));
        Check.refused("new: report 0", Check.ELEMENT, () -> desk.lines(0));
    }

    private static void promise2SetRoad() {
        ExpenseDesk desk = new ExpenseDesk();
        Check.due("first road", 0, desk.setRoad(0, 11, 1));
        Check.due("the same road from its other end", 1, desk.setRoad(11, 0, 500));
        Check.due("removed", 500, desk.setRoad(0, 11, 0));
        Check.due("no road to remove", 0, desk.setRoad(0, 11, 0));
        desk.setRoad(0, 11, 7);
        int[][] bad = {{-1, 0, 5}, {12, 0, 5}, {0, -1, 5}, {0, 12, 5}, {3, 3, 5}, {3, 3, 0}, {0, 11, -1},
            {0, 11, 501}, {MIN, 0, 5}, {0, MAX, 5}, {0, 11, MIN}, {0, 11, MAX}};
        Check.refusedEach("setRoad ", Check.ARGUMENT, bad, b -> desk.setRoad(b[0], b[1], b[2]));
        Check.due("as before the refused calls", 7, desk.setRoad(11, 0, 8));
        Check.due("both ways", 8, desk.distance(0, 11));
        Check.due("both ways", 8, desk.distance(11, 0));
    }

    private static void promise3SetDayRate() {
        ExpenseDesk desk = new ExpenseDesk();
        Check.due("first", 0, desk.setDayRate(0, 100000));
        Check.due("another region", 0, desk.setDayRate(5, 3));
        Check.due("second", 100000, desk.setDayRate(0, 0));
        Check.due("third", 0, desk.setDayRate(0, 17));
        int[][] bad = {{-1, 1}, {6, 1}, {0, -1}, {0, 100001}, {MIN, 1}, {MAX, 1}, {0, MIN}, {0, MAX}};
        Check.refusedEach("setDayRate ", Check.ARGUMENT, bad, b -> desk.setDayRate(b[0], b[1]));
        Check.due("as before the refused calls", 17, desk.setDayRate(0, 1));
    }

    private static void promise4SetKilometreRate() {
        ExpenseDesk desk = new ExpenseDesk();
        Check.due("first", 0, desk.setKilometreRate(500));
        Check.due("second", 500, desk.setKilometreRate(0));
        Check.due("third", 0, desk.setKilometreRate(30));
        for (int bad : new int[] {-1, 501, MIN, MAX}) {
            Check.refused("setKilometreRate " + bad, Check.ARGUMENT, () -> desk.setKilometreRate(bad));
        }
        Check.due("as before the refused calls", 30, desk.setKilometreRate(1));
    }

    private static void promise5SetExchange() {
        ExpenseDesk desk = new ExpenseDesk();
        Check.due("first", 0, desk.setExchange(1, 5, 100));
        Check.due("a later day has none of its own", 0, desk.setExchange(1, 6, 200));
        Check.due("an earlier day", 0, desk.setExchange(1, 0, 1));
        Check.due("the last day", 0, desk.setExchange(1, 3649, 100000));
        Check.due("another currency", 0, desk.setExchange(4, 5, 300));
        Check.due("its only day again", 300, desk.setExchange(4, 5, 301));
        Check.due("the very day again", 100, desk.setExchange(1, 5, 150));
        Check.due("and again", 150, desk.setExchange(1, 5, 160));
        int[][] bad = {{0, 5, 1}, {-1, 5, 1}, {5, 5, 1}, {1, -1, 1}, {1, 3650, 1}, {1, 5, 0}, {1, 5, -1},
            {1, 5, 100001}, {MIN, 5, 1}, {MAX, 5, 1}, {1, MIN, 1}, {1, MAX, 1}, {1, 5, MIN}, {1, 5, MAX}};
        Check.refusedEach("setExchange ", Check.ARGUMENT, bad, b -> desk.setExchange(b[0], b[1], b[2]));
        Check.due("as before the refused calls", 160, desk.setExchange(1, 5, 1));
        Check.due("the home rate stays", 10000, desk.exchange(0, 5));
    }

    private static void promise6SetLimit() {
        ExpenseDesk desk = new ExpenseDesk();
        for (int category = -1; category < 6; category++) {
            for (int grade = -1; grade < 4; grade++) {
                int limit = 100 * (category + 1) + grade + 1;
                Check.due("first rule", ExpenseDesk.NONE, desk.setLimit(category, grade, limit));
                Check.due("its limit", limit, desk.setLimit(category, grade, limit));
            }
        }
        Check.due("a rule of 0 is a rule", 0, desk.setLimit(-1, -1, 10000000));
        Check.due("the highest limit", 10000000, desk.setLimit(-1, -1, ExpenseDesk.NONE));
        Check.due("removed", ExpenseDesk.NONE, desk.setLimit(-1, -1, ExpenseDesk.NONE));
        int[][] bad = {{-2, 0, 1}, {6, 0, 1}, {0, -2, 1}, {0, 4, 1}, {0, 0, -2}, {0, 0, 10000001},
            {MIN, 0, 1}, {MAX, 0, 1}, {0, MIN, 1}, {0, MAX, 1}, {0, 0, MIN}, {0, 0, MAX}};
        Check.refusedEach("setLimit ", Check.ARGUMENT, bad, b -> desk.setLimit(b[0], b[1], b[2]));
        Check.due("as before the refused calls", 101, desk.setLimit(0, 0, 5));
    }

    private static void promise7Distance() {
        ExpenseDesk desk = new ExpenseDesk();
        desk.setRoad(0, 1, 10);
        desk.setRoad(1, 2, 10);
        desk.setRoad(0, 2, 25);
        Check.due("round is shorter", 20, desk.distance(0, 2));
        Check.due("and back", 20, desk.distance(2, 0));
        desk.setRoad(0, 2, 19);
        Check.due("straight is shorter", 19, desk.distance(0, 2));
        desk.setRoad(0, 2, 0);
        Check.due("the road is gone", 20, desk.distance(0, 2));
        desk.setRoad(1, 2, 0);
        Check.due("no way any more", ExpenseDesk.NONE, desk.distance(0, 2));
        Check.due("to itself", 0, desk.distance(2, 2));
        for (int site = 0; site < 11; site++) {
            desk.setRoad(site, site + 1, 500);
        }
        Check.due("the longest way", 5500, desk.distance(11, 0));
        desk.setRoad(0, 5, 3);
        Check.due("over site 0", 503, desk.distance(5, 1));
        desk.setRoad(11, 5, 3);
        desk.setRoad(11, 6, 3);
        Check.due("over site 11", 6, desk.distance(5, 6));
        int[][] bad = {{-1, 0}, {12, 0}, {0, -1}, {0, 12}, {12, 12}, {MIN, 0}, {0, MAX}};
        Check.refusedEach("distance ", Check.ARGUMENT, bad, b -> desk.distance(b[0], b[1]));
    }

    private static void promise8Via() {
        ExpenseDesk desk = new ExpenseDesk();
        desk.setRoad(3, 9, 10);
        desk.setRoad(9, 5, 10);
        desk.setRoad(3, 7, 12);
        desk.setRoad(7, 5, 8);
        desk.setRoad(5, 0, 4);
        Check.due("the lowest of two", 7, desk.via(3, 5));
        Check.due("the lowest of two, back", 7, desk.via(5, 3));
        Check.due("on to a further site", 7, desk.via(3, 0));
        Check.due("one way alone", 5, desk.via(0, 3));
        desk.setRoad(3, 5, 20);
        Check.due("the end itself is the lowest", 5, desk.via(3, 5));
        desk.setRoad(3, 5, 21);
        Check.due("a longer road is none of the ways", 7, desk.via(3, 5));
        desk.setRoad(3, 7, 13);
        Check.due("the shorter way counts first", 9, desk.via(3, 5));
        desk.setRoad(6, 0, 1);
        Check.due("first to site 0, over the shortest road", 0, desk.via(6, 5));
        desk.setRoad(8, 10, 1);
        desk.setRoad(10, 11, 1);
        desk.setRoad(8, 11, 3);
        Check.due("a higher site on a shorter way", 10, desk.via(8, 11));
        Check.due("first to site 11", 11, desk.via(10, 11));
        Check.due("no way", ExpenseDesk.NONE, desk.via(3, 11));
        Check.due("no way", ExpenseDesk.NONE, desk.via(11, 3));
        Check.due("the same site", ExpenseDesk.NONE, desk.via(3, 3));
        int[][] bad = {{-1, 0}, {12, 0}, {0, -1}, {0, 12}, {-1, -1}, {MAX, 0}, {0, MIN}};
        Check.refusedEach("via ", Check.ARGUMENT, bad, b -> desk.via(b[0], b[1]));
    }

    private static void promise9Exchange() {
        ExpenseDesk desk = new ExpenseDesk();
        desk.setExchange(2, 9, 90);
        desk.setExchange(2, 5, 50);
        desk.setExchange(2, 7, 70);
        Check.due("before the first", ExpenseDesk.NONE, desk.exchange(2, 4));
        Check.due("the very day", 50, desk.exchange(2, 5));
        Check.due("the nearest earlier one", 50, desk.exchange(2, 6));
        Check.due("the very day", 70, desk.exchange(2, 7));
        Check.due("the nearest earlier one", 70, desk.exchange(2, 8));
        Check.due("the very day", 90, desk.exchange(2, 9));
        Check.due("the last day", 90, desk.exchange(2, 3649));
        desk.setExchange(2, 5, 55);
        Check.due("told again", 55, desk.exchange(2, 6));
        Check.due("another currency", ExpenseDesk.NONE, desk.exchange(3, 3649));
        Check.due("home", 10000, desk.exchange(0, 0));
        int[][] bad = {{-1, 0}, {5, 0}, {0, -1}, {0, 3650}, {2, -1}, {MIN, 0}, {MAX, 0}, {1, MIN}, {1, MAX}};
        Check.refusedEach("exchange ", Check.ARGUMENT, bad, b -> desk.exchange(b[0], b[1]));
    }

    private static void promise10Limit() {
        ExpenseDesk desk = new ExpenseDesk();
        desk.setLimit(-1, -1, 4);
        Check.due("any and any", 4, desk.limit(2, 1));
        desk.setLimit(-1, 1, 3);
        Check.due("the grade", 3, desk.limit(2, 1));
        desk.setLimit(2, -1, 2);
        Check.due("the category is ahead of the grade", 2, desk.limit(2, 1));
        desk.setLimit(2, 1, 0);
        Check.due("both first, a limit of 0 too", 0, desk.limit(2, 1));
        Check.due("another grade", 2, desk.limit(2, 3));
        Check.due("another category", 3, desk.limit(5, 1));
        Check.due("another of both", 4, desk.limit(0, 0));
        desk.setLimit(2, 1, ExpenseDesk.NONE);
        desk.setLimit(2, -1, ExpenseDesk.NONE);
        Check.due("rules removed", 3, desk.limit(2, 1));
        desk.setLimit(-1, -1, ExpenseDesk.NONE);
        Check.due("no rule counts", ExpenseDesk.NONE, desk.limit(0, 0));
        int[][] bad = {{-1, 0}, {6, 0}, {0, -1}, {0, 4}, {MIN, 0}, {MAX, 0}, {0, MIN}, {0, MAX}};
        Check.refusedEach("limit ", Check.ARGUMENT, bad, b -> desk.limit(b[0], b[1]));
    }

    private static void constants() {
        Check.due("NONE", -1, ExpenseDesk.NONE);
        Check.due("ANY", -1, ExpenseDesk.ANY);
        Check.due("TRIP", 0, ExpenseDesk.TRIP);
        Check.due("DRIVE", 1, ExpenseDesk.DRIVE);
        Check.due("ITEM", 2, ExpenseDesk.ITEM);
    }

    private static void desksAreApart() {
        ExpenseDesk one = new ExpenseDesk();
        ExpenseDesk other = new ExpenseDesk();
        one.setRoad(0, 1, 5);
        one.setExchange(1, 0, 5);
        one.setLimit(0, 0, 5);
        one.addEmployee(0);
        one.openReport(0);
        Check.due("the other's roads", ExpenseDesk.NONE, other.distance(0, 1));
        Check.due("the other's rates", ExpenseDesk.NONE, other.exchange(1, 0));
        Check.due("the other's rules", ExpenseDesk.NONE, other.limit(0, 0));
        Check.due("the other's reports", 0, other.reports());
    }
}
