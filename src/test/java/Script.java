import java.util.ArrayList;
import java.util.List;

/**
 * Runs of calls on a new desk, written as a text with a call a line: "call = answer", "call throws Exception",
 * or the call alone, which then may answer anything but an exception. Each call that is refused must leave the
 * desk as one that was never asked.
 */
final class Script {
    private static final int MIN = Integer.MIN_VALUE;
    private static final int MAX = Integer.MAX_VALUE;

    private Script() {
    }

    static void due(String sentence, String... parts) {
        List<String> lines = linesOf(parts);
        Calls calls = new Calls();
        for (int i = 0; i < lines.size(); i++) {
            String line = lines.get(i);
            String got = calls.answer(callOf(line));
            Check.due(sentence + ": " + line + ", answered was " + got, true, isDue(line, got));
            if (line.contains(" throws ")) {
                changesNothing(sentence, lines.subList(0, i), callOf(line));
            }
        }
    }

    /**
     * The call, with each # in it as least and as greatest, answers; one beyond these and at the ends of int it
     * throws.
     */
    static void range(String setup, String call, int least, int greatest, String thrown) {
        for (int value : new int[] {least, greatest}) {
            due(call + " from " + least + " to " + greatest, setup, with(call, value));
        }
        for (int value : new int[] {least - 1, greatest + 1, MIN, MAX}) {
            due(call + " beyond " + least + " to " + greatest, setup, with(call, value) + " throws " + thrown);
        }
    }

    private static String with(String call, int value) {
        return call.replace("#", Integer.toString(value));
    }

    private static List<String> linesOf(String[] parts) {
        List<String> lines = new ArrayList<>();
        for (String part : parts) {
            for (String line : part.split("\n")) {
                if (!line.isBlank()) {
                    lines.add(line.strip());
                }
            }
        }
        return lines;
    }

    private static String callOf(String line) {
        return line.substring(0, line.indexOf(')') + 1);
    }

    private static boolean isDue(String line, String got) {
        String rest = line.substring(line.indexOf(')') + 1);
        if (rest.isEmpty()) {
            return !Calls.isThrown(got);
        }
        if (rest.startsWith(" throws ")) {
            String thrown = rest.substring(" throws ".length());
            String home = thrown.equals("NoSuchElementException") ? "java.util." : "java.lang.";
            return got.equals(home + thrown);
        }
        return rest.equals(" = " + got);
    }

    private static void changesNothing(String sentence, List<String> before, String refused) {
        Calls asked = new Calls();
        Calls spared = new Calls();
        for (String line : before) {
            asked.answer(callOf(line));
            spared.answer(callOf(line));
        }
        asked.answer(refused);
        List<String> found = asked.everything();
        List<String> due = spared.everything();
        String changed = "";
        for (int i = 0; i < Math.min(found.size(), due.size()) && changed.isEmpty(); i++) {
            changed = found.get(i).equals(due.get(i)) ? "" : found.get(i) + ", due is " + due.get(i);
        }
        Check.due(sentence + ": after the refused " + refused + " " + changed, true, found.equals(due));
    }
}
