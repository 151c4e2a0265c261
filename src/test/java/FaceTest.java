import java.lang.reflect.Constructor;
import java.lang.reflect.Field;
import java.lang.reflect.Method;
import java.lang.reflect.Modifier;
import java.nio.file.Files;
import java.nio.file.Path;
import java.util.Arrays;
import java.util.HashSet;
import java.util.Set;
import java.util.TreeSet;
import java.util.regex.Matcher;
import java.util.regex.Pattern;

/** The face of the class, and those rules of ../shared/LANGUAGE.md that can be read off the class or its text. */
public final class FaceTest {
    private static final String FACE = """
        int setRoad(int, int, int) throws IllegalArgumentException
        int setDayRate(int, int) throws IllegalArgumentException
        int setKilometreRate(int) throws IllegalArgumentException
        int setExchange(int, int, int) throws IllegalArgumentException
        int setLimit(int, int, int) throws IllegalArgumentException
        int distance(int, int) throws IllegalArgumentException
        int via(int, int) throws IllegalArgumentException
        int exchange(int, int) throws IllegalArgumentException
        int limit(int, int) throws IllegalArgumentException
        int addEmployee(int) throws IllegalArgumentException, IllegalStateException
        int setGrade(int, int) throws NoSuchElementException, IllegalArgumentException
        int openReport(int) throws NoSuchElementException, IllegalStateException
        int handIn(int) throws NoSuchElementException, IllegalStateException
        int giveBack(int) throws NoSuchElementException, IllegalStateException
        int addTrip(int, int, int, int, int, int, int) \
        throws NoSuchElementException, IllegalArgumentException, IllegalStateException
        int addDrive(int, int, int, boolean) \
        throws NoSuchElementException, IllegalArgumentException, IllegalStateException
        int addItem(int, int, int, int, int, int) \
        throws NoSuchElementException, IllegalArgumentException, IllegalStateException
        int removeLine(int, int) throws NoSuchElementException, IndexOutOfBoundsException, IllegalStateException
        int reports()
        boolean isOpen(int) throws NoSuchElementException
        int lines(int) throws NoSuchElementException
        int kindOf(int, int) throws NoSuchElementException, IndexOutOfBoundsException
        int claimed(int, int) throws NoSuchElementException, IndexOutOfBoundsException
        int paid(int, int) throws NoSuchElementException, IndexOutOfBoundsException
        int total(int) throws NoSuchElementException
        int handedIn(int) throws NoSuchElementException
        int totalOf(int, int) throws NoSuchElementException, IllegalArgumentException
        int duplicateOf(int, int) throws NoSuchElementException, IndexOutOfBoundsException
        int duplicates(int) throws NoSuchElementException
        int editDistance(int, int) throws IllegalArgumentException
        """;

    public static void main(String[] args) throws Exception {
        classAndConstructor();
        methods();
        fields();
        classesInside();
        text(Files.readString(Path.of("src/main/java/ExpenseDesk.java")));
        Check.end("FaceTest");
    }

    private static void classAndConstructor() {
        Check.due("public final", Modifier.PUBLIC | Modifier.FINAL, ExpenseDesk.class.getModifiers());
        Constructor<?>[] constructors = ExpenseDesk.class.getDeclaredConstructors();
        Check.due("constructors", 1, constructors.length);
        Check.due("public constructor", Modifier.PUBLIC, constructors[0].getModifiers());
        Check.due("its parameters", 0, constructors[0].getParameterCount());
    }

    private static void methods() {
        Set<String> face = new TreeSet<>(Arrays.asList(FACE.split("\n")));
        Set<String> found = new TreeSet<>();
        Set<String> publicNames = new HashSet<>();
        Set<String> privateNames = new HashSet<>();
        for (Method method : ExpenseDesk.class.getDeclaredMethods()) {
            if (Modifier.isPrivate(method.getModifiers())) {
                privateNames.add(method.getName());
                continue;
            }
            publicNames.add(method.getName());
            Check.due("public, no more: " + method, Modifier.PUBLIC, method.getModifiers());
            String throwing = names(method.getExceptionTypes());
            found.add(method.getReturnType() + " " + method.getName() + "(" + names(method.getParameterTypes()) + ")"
                + (throwing.isEmpty() ? "" : " throws " + throwing));
        }
        Check.due("the face is " + face + "\n, found is " + found, true, face.equals(found));
        privateNames.retainAll(publicNames);
        Check.due("private methods with public names " + privateNames, true, privateNames.isEmpty());
    }

    private static String names(Class<?>[] types) {
        return String.join(", ", Arrays.stream(types).map(Class::getSimpleName).toList());
    }

    private static void fields() {
        Set<String> constants = new TreeSet<>();
        for (Field field : ExpenseDesk.class.getDeclaredFields()) {
            int modifiers = field.getModifiers();
            if (Modifier.isPublic(modifiers)) {
                constants.add(field.getName());
            } else {
                Check.due("private: " + field, true, Modifier.isPrivate(modifiers));
            }
            checkStatic(field);
        }
        Check.due("constants: " + constants, true,
            constants.equals(Set.of("NONE", "ANY", "TRIP", "DRIVE", "ITEM")));
    }

    private static void checkStatic(Field field) {
        int modifiers = field.getModifiers();
        Check.due("static is final: " + field, true, !Modifier.isStatic(modifiers) || Modifier.isFinal(modifiers));
    }

    private static void classesInside() {
        Class<?>[] inside = ExpenseDesk.class.getDeclaredClasses();
        Check.due("some twelve classes", true, inside.length <= 12);
        for (Class<?> one : inside) {
            Check.due("not public or protected: " + one, 0,
                one.getModifiers() & (Modifier.PUBLIC | Modifier.PROTECTED));
            Check.due("static: " + one, true, Modifier.isStatic(one.getModifiers()));
            for (Field field : one.getDeclaredFields()) {
                checkStatic(field);
            }
        }
    }

    private static void text(String source) {
        String code = source.replaceAll("(?s)/\\*.*?\\*/", "").replaceAll("//[^\n]*", "");
        for (String refused : new String[] {"->", "::", "@", "\\btry\\b", "\\bcatch\\b", "\\bfinally\\b",
            "\\bsynchronized\\b", "\\bassert\\b", "^package\\b", "\\bvar\\b", "\" \\+", "\\+ \"", "Exact\\("}) {
            Matcher matcher = Pattern.compile(refused, Pattern.MULTILINE).matcher(code);
            Check.due("the text has " + refused, false, matcher.find());
        }
        Matcher imports = Pattern.compile("^import (.*);", Pattern.MULTILINE).matcher(code);
        while (imports.find()) {
            Check.due("import " + imports.group(1), true, Set.of("java.util.ArrayList", "java.util.Arrays",
                "java.util.NoSuchElementException").contains(imports.group(1)));
        }
        Check.due("characters", true, source.chars().allMatch(c -> c < 128));
    }
}
