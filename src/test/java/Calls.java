import java.lang.reflect.InvocationTargetException;
import java.lang.reflect.Method;
import java.util.ArrayList;
import java.util.HashMap;
import java.util.List;
import java.util.Map;

/** A new desk whose calls are made from texts like "setLimit(2, -1, 500)", so that they can stand in tables. */
final class Calls {
    private static final int MOST = 512;
    private static final int[] DAYS_OF_RATES = {0, 1, 5, 9, 10, 3649};
    private static final Map<String, Method> FACE = methodsOf(ExpenseDesk.class);

    private final ExpenseDesk desk = new ExpenseDesk();
    private int made = 0;

    static Map<String, Method> methodsOf(Class<?> type) {
        Map<String, Method> methods = new HashMap<>();
        for (Method method : type.getDeclaredMethods()) {
            methods.put(method.getName(), method);
        }
        return methods;
    }

    /** What the call answers, or the name of what it throws; what the class does not throw itself is told apart. */
    static String answer(Object of, Method method, Object[] arguments) {
        try {
            return String.valueOf(method.invoke(of, arguments));
        } catch (InvocationTargetException e) {
            Throwable thrown = e.getCause();
            boolean wild = of instanceof ExpenseDesk && !Check.thrownByTheClass(thrown);
            return (wild ? "not by a throw of its own: " : "") + thrown.getClass().getName();
        } catch (IllegalAccessException e) {
            throw new IllegalStateException(e);
        }
    }

    static boolean isThrown(String answer) {
        return !answer.matches("-?\\d+|true|false");
    }

    String answer(String call) {
        made++;
        if (made > MOST) {
            throw new IllegalStateException("the test makes too many calls of one desk");
        }
        String name = call.substring(0, call.indexOf('('));
        String list = call.substring(call.indexOf('(') + 1, call.indexOf(')'));
        if (!FACE.containsKey(name)) {
            throw new IllegalArgumentException("no such call: " + call);
        }
        return answer(desk, FACE.get(name), list.isEmpty() ? new Object[0] : values(list.split(", ")));
    }

    private static Object[] values(String[] texts) {
        Object[] values = new Object[texts.length];
        for (int i = 0; i < texts.length; i++) {
            boolean isNumber = !texts[i].equals("true") && !texts[i].equals("false");
            values[i] = isNumber ? (Object) Integer.valueOf(texts[i]) : (Object) Boolean.valueOf(texts[i]);
        }
        return values;
    }

    /**
     * All that can be asked of the desk, in few enough calls; the desk is used up by it, because rates, roads
     * and rules can only be seen whole by what the calls that change them answer.
     */
    List<String> everything() {
        List<String> found = new ArrayList<>();
        int reports = Integer.parseInt(ask(found, "reports()"));
        for (int report = 0; report < reports; report++) {
            askReport(found, report);
        }
        for (int employee = 0; employee < 8; employee++) {
            if (!isThrown(ask(found, "handedIn(" + employee + ")"))) {
                for (int category = 0; category < 6; category++) {
                    ask(found, "totalOf(" + employee + ", " + category + ")");
                }
                ask(found, "setGrade(" + employee + ", 0)");
            }
        }
        askSettings(found);
        return found;
    }

    private void askReport(List<String> found, int report) {
        ask(found, "isOpen(" + report + ")");
        ask(found, "total(" + report + ")");
        ask(found, "duplicates(" + report + ")");
        int lines = Integer.parseInt(ask(found, "lines(" + report + ")"));
        for (int line = 0; line < lines; line++) {
            for (String name : new String[] {"kindOf", "claimed", "paid", "duplicateOf"}) {
                ask(found, name + "(" + report + ", " + line + ")");
            }
        }
    }

    private void askSettings(List<String> found) {
        for (int site = 0; site < 11; site++) {
            ask(found, "distance(" + site + ", " + (site + 1) + ")");
        }
        for (int a = 0; a < 12; a++) {
            for (int b = a + 1; b < 12; b++) {
                ask(found, "setRoad(" + a + ", " + b + ", 0)");
            }
        }
        for (int region = 0; region < 6; region++) {
            ask(found, "setDayRate(" + region + ", 0)");
        }
        ask(found, "setKilometreRate(0)");
        for (int category = -1; category < 6; category++) {
            for (int grade = -1; grade < 4; grade++) {
                ask(found, "setLimit(" + category + ", " + grade + ", -1)");
            }
        }
        for (int currency = 1; currency < 5; currency++) {
            for (int day : DAYS_OF_RATES) {
                ask(found, "setExchange(" + currency + ", " + day + ", 1)");
            }
        }
    }

    private String ask(List<String> found, String call) {
        String answer = answer(call);
        found.add(call + " = " + answer);
        return answer;
    }
}
