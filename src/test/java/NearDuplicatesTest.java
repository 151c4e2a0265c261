/** The sentences of the document on near duplicates and edit distances, each asked on both sides of its edge. */
public final class NearDuplicatesTest {
    private static final String ONE_REPORT = "addEmployee(0) = 0\nopenReport(0) = 0\n";
    private static final String TWO_REPORTS = ONE_REPORT + "openReport(0) = 1\n";

    public static void main(String[] args) {
        likeByDays();
        likeByClaims();
        likeByReceipts();
        likeByEarlier();
        likeByOthers();
        likeByKeptClaims();
        editDistances();
        Check.end("NearDuplicatesTest");
    }

    private static void like(String sentence, boolean want, String earlier, String later) {
        String rates = "setExchange(1, 0, 100000)\nsetExchange(2, 0, 1)\nsetExchange(3, 0, 20000)\n";
        Script.due(sentence, rates + ONE_REPORT, "addItem(0, " + earlier + ") = 0\naddItem(0, " + later
            + ") = 1\nduplicateOf(0, 0) = -1\nduplicateOf(0, 1) = " + (want ? 0 : -1) + "\nduplicates(0) = "
            + (want ? 1 : 0));
    }

    private static void likeByDays() {
        String sentence = "their days differ by at most 3";
        like(sentence, true, "10, 0, 100, 0, 7", "10, 0, 100, 0, 7");
        like(sentence, true, "10, 0, 100, 0, 7", "13, 0, 100, 0, 7");
        like(sentence, false, "10, 0, 100, 0, 7", "14, 0, 100, 0, 7");
        like(sentence, true, "10, 0, 100, 0, 7", "7, 0, 100, 0, 7");
        like(sentence, false, "10, 0, 100, 0, 7", "6, 0, 100, 0, 7");
        like(sentence, true, "0, 0, 100, 0, 7", "3, 0, 100, 0, 7");
        like(sentence, false, "0, 0, 100, 0, 7", "4, 0, 100, 0, 7");
        like(sentence, true, "3649, 0, 100, 0, 7", "3646, 0, 100, 0, 7");
        like(sentence, false, "3649, 0, 100, 0, 7", "3645, 0, 100, 0, 7");
        like(sentence, false, "0, 0, 100, 0, 7", "3649, 0, 100, 0, 7");
    }

    private static void amounts(boolean want, int one, int other) {
        String sentence = "what they claim differs by at most a hundredth of the greater one of both";
        like(sentence, want, "5, 0, " + one + ", 0, 7", "5, 0, " + other + ", 0, 7");
        like(sentence, want, "5, 0, " + other + ", 0, 7", "5, 0, " + one + ", 0, 7");
    }

    private static void likeByClaims() {
        amounts(true, 1, 1);
        amounts(false, 1, 2);
        amounts(false, 98, 99);
        amounts(true, 99, 100);
        amounts(true, 100, 101);
        amounts(false, 197, 199);
        amounts(true, 198, 200);
        amounts(false, 197, 200);
        amounts(true, 9900, 10000);
        amounts(false, 9899, 10000);
        amounts(true, 10000, 10101);
        amounts(false, 10000, 10102);
        amounts(true, 495000, 500000);
        amounts(false, 494999, 500000);
        amounts(false, 1, 500000);
        String sentence = "what they claim, not the amounts in their currencies";
        like(sentence, true, "5, 0, 495000, 1, 7", "5, 0, 500000, 1, 7");
        like(sentence, false, "5, 0, 494999, 1, 7", "5, 0, 500000, 1, 7");
        like(sentence, false, "5, 0, 1, 0, 7", "5, 0, 500000, 1, 7");
        like(sentence, true, "5, 0, 1, 2, 7", "5, 0, 4999, 2, 7");
        like(sentence, false, "5, 0, 1, 2, 7", "5, 0, 5000, 2, 7");
        like(sentence, true, "5, 0, 100, 3, 7", "5, 0, 200, 0, 7");
        like(sentence, true, "5, 0, 198, 0, 7", "5, 0, 100, 3, 7");
        like(sentence, false, "5, 0, 197, 0, 7", "5, 0, 100, 3, 7");
        like(sentence, false, "5, 0, 100, 0, 7", "5, 0, 100, 3, 7");
    }

    private static void receipts(boolean want, int one, int other) {
        String sentence = "the edit distance of their receipt numbers is at most 1";
        like(sentence, want, "5, 0, 100, 0, " + one, "5, 0, 100, 0, " + other);
        like(sentence, want, "5, 0, 100, 0, " + other, "5, 0, 100, 0, " + one);
    }

    private static void likeByReceipts() {
        int[][] near = {{0, 0}, {0, 5}, {0, 9}, {0, 10}, {0, 50}, {5, 50}, {5, 15}, {5, 55}, {5, 9}, {1, 10}, {10, 100},
            {12, 1}, {12, 2}, {12, 112}, {12, 102}, {12, 122}, {12, 120}, {12, 123}, {10, 110}, {10, 101},
            {999999999, 99999999}, {100000000, 10000000}, {100000000, 100000001}, {100000000, 200000000},
            {123456789, 23456789}, {123456789, 12345678}, {123456789, 12346789}, {123456789, 123406789},
            {123456789, 923456789}, {99999999, 989999999}};
        int[][] far = {{0, 11}, {0, 12}, {0, 15}, {0, 100}, {0, 200}, {0, 100000000}, {0, 999999999}, {5, 105},
            {5, 500}, {5, 16}, {5, 66}, {1, 100}, {12, 21}, {12, 1002}, {12, 1200}, {101, 1}, {110, 11001},
            {999999999, 9999999}, {100000000, 1000000}, {100000000, 200000001}, {123456789, 124356789},
            {123456789, 234567891}, {12345678, 23456789}, {123456789, 1234567}};
        for (int[] pair : near) {
            receipts(true, pair[0], pair[1]);
        }
        for (int[] pair : far) {
            receipts(false, pair[0], pair[1]);
        }
    }

    private static void likeByEarlier() {
        Script.due("in the same report with a lower number of the line", ONE_REPORT, """
            addItem(0, 5, 0, 100, 0, 7) = 0
            duplicateOf(0, 0) = -1
            duplicates(0) = 0
            addItem(0, 5, 0, 100, 0, 7) = 1
            addItem(0, 5, 0, 100, 0, 7) = 2
            duplicateOf(0, 0) = -1
            duplicateOf(0, 1) = 0
            duplicateOf(0, 2) = 0
            duplicates(0) = 2
            removeLine(0, 0) = 2
            duplicateOf(0, 0) = -1
            duplicateOf(0, 1) = 0
            duplicates(0) = 1
            """);
        Script.due("in a report with a lower number, whenever its lines came", TWO_REPORTS, """
            addItem(1, 5, 0, 100, 0, 7) = 0
            duplicateOf(1, 0) = -1
            addTrip(0, 0, 5, 0, 0, 0, 0) = 0
            addItem(0, 5, 0, 100, 0, 7) = 1
            duplicateOf(0, 1) = -1
            duplicateOf(1, 0) = 1
            duplicates(0) = 0
            duplicates(1) = 1
            addItem(1, 5, 0, 100, 0, 7) = 1
            duplicateOf(1, 1) = 1
            removeLine(0, 1) = 1
            duplicateOf(1, 0) = -1
            duplicateOf(1, 1) = 100
            """);
        Script.due("the first of those that it is like, not of those that these are like", ONE_REPORT, """
            addItem(0, 5, 0, 100, 0, 7) = 0
            addItem(0, 8, 0, 100, 0, 7) = 1
            addItem(0, 11, 0, 100, 0, 7) = 2
            addItem(0, 15, 0, 100, 0, 7) = 3
            duplicateOf(0, 1) = 0
            duplicateOf(0, 2) = 1
            duplicateOf(0, 3) = -1
            duplicates(0) = 2
            """);
        Script.due("100 times the number of the report, plus the number of its line: the greatest",
            "addEmployee(0)\n" + "openReport(0)\n".repeat(16) + "addTrip(15, 0, 5, 0, 0, 0, 0)\n".repeat(18), """
            addItem(15, 5, 0, 100, 0, 7) = 18
            addItem(15, 5, 0, 100, 0, 7) = 19
            duplicateOf(15, 18) = -1
            duplicateOf(15, 19) = 1518
            duplicates(15) = 1
            addItem(14, 5, 0, 100, 0, 7) = 0
            duplicateOf(15, 19) = 1400
            duplicateOf(15, 18) = 1400
            duplicates(15) = 2
            """);
    }

    private static void likeByOthers() {
        Script.due("both are of the same employee", """
            addEmployee(0)
            addEmployee(0)
            openReport(0) = 0
            openReport(1) = 1
            openReport(0) = 2
            addItem(0, 5, 0, 100, 0, 7) = 0
            addItem(1, 5, 0, 100, 0, 7) = 0
            duplicateOf(1, 0) = -1
            duplicates(1) = 0
            addItem(2, 5, 0, 100, 0, 7) = 0
            duplicateOf(2, 0) = 0
            removeLine(0, 0) = 0
            duplicateOf(2, 0) = -1
            """);
        Script.due("NONE if the line is no item; trips and drives are like nothing", ONE_REPORT, """
            setRoad(0, 1, 10)
            addTrip(0, 0, 1440, 0, 0, 0, 0) = 0
            addTrip(0, 0, 1440, 0, 0, 0, 0) = 1
            addDrive(0, 0, 1, false) = 2
            addDrive(0, 0, 1, false) = 3
            setExchange(1, 0, 1)
            addItem(0, 0, 0, 1, 1, 0) = 4
            duplicateOf(0, 1) = -1
            duplicateOf(0, 3) = -1
            duplicateOf(0, 4) = -1
            duplicates(0) = 0
            addItem(0, 0, 0, 1, 1, 0) = 5
            duplicateOf(0, 5) = 4
            duplicates(0) = 1
            """);
        Script.due("another category, another currency and a limit that is used up do not count", ONE_REPORT, """
            setExchange(1, 0, 10000)
            setLimit(-1, -1, 0)
            addItem(0, 5, 0, 100, 0, 7) = 0
            addItem(0, 5, 5, 100, 1, 7) = 1
            addItem(0, 5, 0, 300, 1, 7) = 2
            addItem(0, 20, 0, 9900, 0, 7) = 3
            addItem(0, 20, 0, 10000, 0, 7) = 4
            addItem(0, 30, 0, 10000, 0, 7) = 5
            addItem(0, 30, 0, 9900, 0, 7) = 6
            total(0) = 0
            duplicateOf(0, 1) = 0
            duplicateOf(0, 2) = -1
            duplicateOf(0, 4) = 3
            duplicateOf(0, 6) = 5
            """);
    }

    private static void likeByKeptClaims() {
        String twoItems = TWO_REPORTS + """
            setExchange(1, 0, 10000)
            addItem(0, 5, 0, 1000, 1, 7) = 0
            addItem(1, 5, 0, 1000, 0, 7) = 0
            duplicateOf(1, 0) = 0
            """;
        Script.due("what the earlier one claims is by the settings of now if its report is open", twoItems, """
            setExchange(1, 0, 20000) = 10000
            duplicateOf(1, 0) = -1
            duplicates(1) = 0
            setExchange(1, 0, 10100) = 20000
            duplicateOf(1, 0) = 0
            setExchange(1, 0, 10200) = 10100
            duplicateOf(1, 0) = -1
            """);
        Script.due("by the settings of now, whatever was asked before", twoItems, """
            setExchange(1, 0, 20000) = 10000
            duplicates(1) = 0
            setExchange(1, 0, 10000) = 20000
            duplicates(1) = 1
            setExchange(1, 0, 10200) = 10000
            duplicates(1) = 0
            """);
        Script.due("and what was kept if not", twoItems, """
            handIn(0) = 1000
            setExchange(1, 0, 20000) = 10000
            duplicateOf(1, 0) = 0
            duplicates(1) = 1
            giveBack(0) = 1000
            duplicateOf(1, 0) = -1
            duplicates(1) = 0
            """);
        Script.due("so too for the later one", TWO_REPORTS, """
            setExchange(1, 0, 10000)
            addItem(0, 5, 0, 1000, 0, 7) = 0
            addItem(1, 5, 0, 1000, 1, 7) = 0
            handIn(1) = 1000
            setExchange(1, 0, 20000) = 10000
            duplicateOf(1, 0) = 0
            duplicates(1) = 1
            giveBack(1) = 1000
            duplicateOf(1, 0) = -1
            duplicates(1) = 0
            """);
        Script.due("within a report that was handed in", ONE_REPORT, """
            setExchange(1, 0, 10000)
            addItem(0, 5, 0, 1000, 0, 7) = 0
            addItem(0, 5, 0, 1000, 1, 7) = 1
            handIn(0) = 2000
            setExchange(1, 0, 20000) = 10000
            duplicateOf(0, 1) = 0
            duplicates(0) = 1
            """);
    }

    private static void editDistances() {
        Script.due("texts of decimal digits without zeros in front; 0 is the text 0", """
            editDistance(0, 0) = 0
            editDistance(0, 9) = 1
            editDistance(0, 10) = 1
            editDistance(0, 11) = 2
            editDistance(0, 100) = 2
            editDistance(0, 111) = 3
            editDistance(0, 100000000) = 8
            editDistance(0, 999999999) = 9
            editDistance(999999999, 0) = 9
            editDistance(7, 1007) = 3
            editDistance(1007, 7) = 3
            """);
        Script.due("the least number of digits that have to be put in, taken out or replaced", """
            editDistance(999999999, 999999999) = 0
            editDistance(111111111, 999999999) = 9
            editDistance(123456789, 123456789) = 0
            editDistance(123456789, 12345678) = 1
            editDistance(12345678, 123456789) = 1
            editDistance(123456789, 23456789) = 1
            editDistance(23456789, 123456789) = 1
            editDistance(123456789, 123406789) = 1
            editDistance(12, 21) = 2
            editDistance(123, 231) = 2
            editDistance(123456789, 234567891) = 2
            editDistance(123456789, 987654321) = 8
            editDistance(123456789, 1) = 8
            editDistance(1, 123456789) = 8
            editDistance(135, 12345) = 2
            """);
    }
}
