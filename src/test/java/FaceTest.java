import java.lang.reflect.Constructor;
import java.lang.reflect.Field;
import java.lang.reflect.Method;
import java.lang.reflect.Modifier;
import java.util.Arrays;
import java.util.Set;
import java.util.TreeSet;
import java.util.stream.Collectors;

/** The public face is the one of the document, and nothing else of the class can be seen from outside. */
public final class FaceTest {
    private static final Check CHECK = new Check("FaceTest");
    private static final String[] FACE = {
        "int addBenchmark() throws IllegalStateException",
        "int fix(int, int) throws IndexOutOfBoundsException, IllegalArgumentException",
        "int release(int) throws IndexOutOfBoundsException, IllegalStateException",
        "int addLine(int, int, int, int) throws IndexOutOfBoundsException, IllegalArgumentException, IllegalStateException",
        "int addBackwardRun(int, int) throws IndexOutOfBoundsException, IllegalArgumentException, IllegalStateException",
        "int exclude(int) throws IndexOutOfBoundsException, IllegalStateException",
        "int include(int) throws IndexOutOfBoundsException, IllegalStateException",
        "int shareMisclosure(int) throws IndexOutOfBoundsException, NoSuchElementException, UnsupportedOperationException",
        "int resetCorrections()",
        "int addProfile(int) throws IndexOutOfBoundsException, IllegalStateException",
        "int addStation(int, int, int) throws IndexOutOfBoundsException, IllegalArgumentException, IllegalStateException",
        "int setWaterLevel(int) throws IllegalArgumentException",
        "int benchmarkCount()",
        "boolean isFixed(int) throws IndexOutOfBoundsException",
        "boolean hasHeight(int) throws IndexOutOfBoundsException",
        "int height(int) throws IndexOutOfBoundsException, NoSuchElementException",
        "int heightByRounds(int) throws IndexOutOfBoundsException, NoSuchElementException",
        "int closingError(int) throws IndexOutOfBoundsException, NoSuchElementException",
        "int datum(int) throws IndexOutOfBoundsException, NoSuchElementException",
        "int benchmarkByHeight(int) throws NoSuchElementException",
        "int lineCount()",
        "int firstOf(int) throws IndexOutOfBoundsException",
        "int secondOf(int) throws IndexOutOfBoundsException",
        "int lengthOf(int) throws IndexOutOfBoundsException",
        "int levelledDifference(int) throws IndexOutOfBoundsException",
        "int correction(int) throws IndexOutOfBoundsException",
        "int discrepancy(int) throws IndexOutOfBoundsException, NoSuchElementException",
        "boolean isExcluded(int) throws IndexOutOfBoundsException",
        "boolean isUsable(int) throws IndexOutOfBoundsException",
        "int tolerance(int) throws IllegalArgumentException",
        "int lineByDiscrepancy(int) throws NoSuchElementException",
        "boolean isInForest(int) throws IndexOutOfBoundsException",
        "int forestLength()",
        "int forestLengthByGrowing()",
        "int treeCount()",
        "int loopCount()",
        "int loopAt(int) throws NoSuchElementException",
        "int loopSize(int) throws IndexOutOfBoundsException, NoSuchElementException",
        "int loopLength(int) throws IndexOutOfBoundsException, NoSuchElementException",
        "int misclosure(int) throws IndexOutOfBoundsException, NoSuchElementException",
        "int misclosureByLevels(int) throws IndexOutOfBoundsException, NoSuchElementException",
        "int part(int, int) throws IndexOutOfBoundsException, NoSuchElementException",
        "int profileCount()",
        "int stationCount(int) throws IndexOutOfBoundsException",
        "int waterLevel()",
        "int ground(int, int) throws IndexOutOfBoundsException, IllegalArgumentException, NoSuchElementException",
        "int wetColumns(int) throws IndexOutOfBoundsException, NoSuchElementException",
        "int wetColumnsBySegments(int) throws IndexOutOfBoundsException, NoSuchElementException",
        "int shores(int) throws IndexOutOfBoundsException, NoSuchElementException",
        "int lowestColumn(int) throws IndexOutOfBoundsException, NoSuchElementException",
        "double meanLength() throws ArithmeticException",
        "float usableShare() throws ArithmeticException",
        "boolean isConsistent()",
        "int renderLine(int) throws IndexOutOfBoundsException",
        "int renderBenchmark(int) throws IndexOutOfBoundsException",
        "char outputAt(int) throws IndexOutOfBoundsException",
        "int type(char) throws IllegalArgumentException, IllegalStateException",
        "int runScript() throws IllegalArgumentException, IllegalStateException",
        "int errorPosition() throws NoSuchElementException",
        "int failedCommand() throws NoSuchElementException",
        "int undo() throws NoSuchElementException",
        "int save()",
        "int restore() throws IllegalStateException"};

    private FaceTest() {
    }

    public static void main(String[] args) {
        publicMethods();
        nothingElseCanBeSeen();
        namesAreNotUsedAgain();
        CHECK.end();
    }

    private static Set<String> names() {
        Set<String> names = new TreeSet<>();
        for (String method : FACE) {
            names.add(method.substring(method.indexOf(' ') + 1, method.indexOf('(')));
        }
        return names;
    }

    private static String written(Method method) {
        String parameters = Arrays.stream(method.getParameterTypes()).map(Class::getSimpleName)
                .collect(Collectors.joining(", "));
        String thrown = Arrays.stream(method.getExceptionTypes()).map(Class::getSimpleName)
                .collect(Collectors.joining(", "));
        return method.getReturnType().getSimpleName() + " " + method.getName() + "(" + parameters + ")"
                + (thrown.isEmpty() ? "" : " throws " + thrown);
    }

    private static void publicMethods() {
        Set<String> found = new TreeSet<>();
        for (Method method : LevelingNetwork.class.getDeclaredMethods()) {
            if (!Modifier.isPrivate(method.getModifiers())) {
                CHECK.due(method + " is public", Modifier.isPublic(method.getModifiers()), true);
                CHECK.due(method + " is static", Modifier.isStatic(method.getModifiers()), false);
                found.add(written(method));
            }
        }
        CHECK.dueText("the face", found.toString(), new TreeSet<>(Arrays.asList(FACE)).toString());
        CHECK.due("methods", FACE.length, 63);
    }

    private static void nothingElseCanBeSeen() {
        Class<?> type = LevelingNetwork.class;
        CHECK.dueText("the class", Modifier.toString(type.getModifiers()), "public final");
        CHECK.due("superclass is Object", type.getSuperclass() == Object.class, true);
        CHECK.due("interfaces", type.getInterfaces().length, 0);
        for (Field field : type.getDeclaredFields()) {
            CHECK.due(field + " is private", Modifier.isPrivate(field.getModifiers()), true);
        }
        Constructor<?>[] constructors = type.getDeclaredConstructors();
        CHECK.due("constructors", constructors.length, 1);
        CHECK.dueText("the constructor", constructors[0].toString(), "public LevelingNetwork()");
    }

    private static void namesAreNotUsedAgain() {
        Set<String> names = names();
        for (Method method : LevelingNetwork.class.getDeclaredMethods()) {
            if (Modifier.isPrivate(method.getModifiers())) {
                CHECK.due(method + " has a name of the face", names.contains(method.getName()), false);
            }
        }
        for (Class<?> inside : LevelingNetwork.class.getDeclaredClasses()) {
            CHECK.due(inside + " is static", Modifier.isStatic(inside.getModifiers()), true);
            for (Method method : inside.getDeclaredMethods()) {
                CHECK.due(method + " has a name of the face", names.contains(method.getName()), false);
            }
        }
    }
}
