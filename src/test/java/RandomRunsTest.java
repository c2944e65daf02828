import java.lang.reflect.InvocationTargetException;
import java.lang.reflect.Method;
import java.util.Arrays;
import java.util.HashMap;
import java.util.Map;

/** Long runs of calls on the program and on the model; each answer of the program has to be the model's. */
public final class RandomRunsTest {
    private static final int RUNS = 150;
    private static final int STEPS = 120;
    private static final int STEPS_PER_SURVEY = 15;
    private static final Check CHECK = new Check("RandomRunsTest");
    private static final Map<String, Method> PROGRAM_METHODS = methods(LevelingNetwork.class);
    private static final Map<String, Method> MODEL_METHODS = methods(Model.class);

    private static final String[] PLAIN = {"benchmarkCount", "lineCount", "forestLength", "forestLengthByGrowing",
        "treeCount", "loopCount", "profileCount", "waterLevel", "meanLength", "usableShare", "isConsistent",
        "errorPosition", "failedCommand"};
    private static final String[] OF_BENCHMARK = {"isFixed", "hasHeight", "height", "heightByRounds", "closingError",
        "datum", "benchmarkByHeight"};
    private static final String[] OF_LINE = {"firstOf", "secondOf", "lengthOf", "levelledDifference", "correction",
        "discrepancy", "isExcluded", "isUsable", "lineByDiscrepancy", "isInForest", "loopAt", "loopSize", "loopLength",
        "misclosure", "misclosureByLevels"};
    private static final String[] OF_PROFILE = {"stationCount", "wetColumns", "wetColumnsBySegments", "shores",
        "lowestColumn"};

    private final LevelingNetwork program = new LevelingNetwork();
    private final Model model = new Model();
    private final int run;
    /** Greater spans let loops miss their tolerance. */
    private final int noise;
    private final StringBuilder told = new StringBuilder();
    private long random;

    private RandomRunsTest(int run) {
        this.run = run;
        random = 1000003L * run + 77;
        noise = 1 + 3 * (run % 3);
    }

    public static void main(String[] args) {
        for (int i = 0; i < RUNS; i++) {
            new RandomRunsTest(i).play();
        }
        CHECK.end();
    }

    private static Map<String, Method> methods(Class<?> type) {
        Map<String, Method> methods = new HashMap<>();
        for (Method method : type.getDeclaredMethods()) {
            if (java.lang.reflect.Modifier.isPublic(method.getModifiers())) {
                methods.put(method.getName(), method);
            }
        }
        return methods;
    }

    private void play() {
        for (int i = 0; i < 2 + below(8); i++) {
            compare("addBenchmark");
        }
        for (int i = 0; i < STEPS; i++) {
            step();
            if (i % STEPS_PER_SURVEY == STEPS_PER_SURVEY - 1) {
                lookAtAll();
            }
        }
    }

    private void step() {
        int choice = below(100);
        if (choice < 4) {
            compare("addBenchmark");
        } else if (choice < 9) {
            compare("fix", benchmark(), height());
        } else if (choice < 12) {
            compare("release", benchmark());
        } else if (choice < 32) {
            addLine();
        } else if (choice < 40) {
            addBackwardRun();
        } else if (choice < 45) {
            compare("exclude", line());
        } else if (choice < 49) {
            compare("include", line());
        } else if (choice < 60) {
            compare("shareMisclosure", closingLine());
        } else if (choice < 61) {
            compare("resetCorrections");
        } else if (choice < 64) {
            compare("addProfile", benchmark());
        } else if (choice < 76) {
            addStation();
        } else if (choice < 80) {
            compare("setWaterLevel", height());
        } else if (choice < 90) {
            runScript();
        } else if (choice < 96) {
            compare("undo");
        } else if (choice < 98) {
            compare("save");
        } else if (choice < 99) {
            compare("restore");
        } else {
            compare("tolerance", below(803) - 1);
        }
    }

    private void addLine() {
        int first = benchmark();
        int second = benchmark();
        compare("addLine", first, second, difference(first, second), length());
    }

    private void addBackwardRun() {
        int line = line();
        int backward = below(10) == 0 ? below(20003) - 10001 : -forward(line) + below(4 * noise + 1) - 2 * noise;
        compare("addBackwardRun", line, backward);
    }

    private int forward(int line) {
        return line >= 0 && line < model.lineCount() ? model.levelledDifference(line) : 0;
    }

    private void addStation() {
        int profile = index(model.profileCount());
        compare("addStation", profile, distance(profile), below(10) == 0 ? below(2003) - 1001 : below(121) - 60);
    }

    private int distance(int profile) {
        if (profile < 0 || profile >= model.profileCount() || below(12) == 0) {
            return below(103) - 1;
        }
        int columns = 0;
        for (int column = 0; column < 100; column++) {
            columns = answer(model, MODEL_METHODS, "ground", profile, column).contains("IllegalArgument") ? columns : column;
        }
        return columns + below(9);
    }

    private int benchmark() {
        return index(model.benchmarkCount());
    }

    private int line() {
        return index(model.lineCount());
    }

    private int closingLine() {
        int loops = model.loopCount();
        return loops == 0 || below(6) == 0 ? line() : model.loopAt(below(loops));
    }

    /** Seldom an index that is not there. */
    private int index(int count) {
        int choice = below(40);
        if (count == 0 || choice == 0) {
            return count;
        }
        if (choice == 1) {
            return below(2) == 0 ? -1 : below(2) == 0 ? Integer.MIN_VALUE : Integer.MAX_VALUE;
        }
        return choice == 2 ? below(64) : below(count);
    }

    private int height() {
        int choice = below(20);
        if (choice == 0) {
            return below(4) == 0 ? Integer.MIN_VALUE : 200003 - below(400007);
        }
        return choice == 1 ? 99998 + below(4) : choice == 2 ? -99998 - below(4) : below(401) - 200;
    }

    private int difference(int first, int second) {
        if (below(12) == 0) {
            return below(20007) - 10003;
        }
        return 23 * (second % 5 - first % 5) + below(2 * noise + 1) - noise;
    }

    private int length() {
        int choice = below(10);
        return choice == 0 ? below(53) : choice < 4 ? 1 + below(50) : 1 + below(6);
    }

    private void runScript() {
        StringBuilder text = new StringBuilder(command());
        for (int i = below(6); i > 0; i--) {
            text.append(';').append(command());
        }
        if (below(3) == 0) {
            int place = below(text.length() + 1);
            String signs = "0123456789-;:/ pfrlbeisw";
            char sign = signs.charAt(below(signs.length()));
            switch (below(3)) {
                case 0 -> text.insert(place, sign);
                case 1 -> text.setLength(place);
                default -> text.setCharAt(Math.min(place, text.length() - 1), sign);
            }
        }
        int size = text.length() > 60 && below(2) == 0 ? text.lastIndexOf(";", 60) : text.length();
        for (int i = 0; i < size; i++) {
            compare("type", text.charAt(i));
        }
        compare("runScript");
    }

    private String command() {
        int first = Math.floorMod(benchmark(), 10);
        int second = Math.floorMod(benchmark(), 10);
        int line = Math.floorMod(line(), 100);
        switch (below(12)) {
            case 0:
                return "point";
            case 1:
                return "fix " + first + " " + inFiveDigits(height());
            case 2:
                return "free " + first;
            case 3:
                return "line " + first + second + " " + inFiveDigits(difference(first, second)) + "/" + length();
            case 4:
                return "back " + line + " " + inFiveDigits(below(7) - 3 - forward(line));
            case 5:
                return "exclude " + line;
            case 6:
                return "include " + line;
            case 7:
                return "share " + Math.floorMod(closingLine(), 100);
            case 8:
                return "reset";
            case 9:
                return "profile " + first;
            case 10:
                int profile = Math.floorMod(index(model.profileCount()), 10);
                return "station " + profile + " " + Math.floorMod(distance(profile), 100) + ":" + (below(121) - 60);
            default:
                return "water " + inFiveDigits(height());
        }
    }

    private static int inFiveDigits(int value) {
        return value % 100000;
    }

    private void lookAtAll() {
        for (String name : PLAIN) {
            compare(name);
        }
        lookAt(OF_BENCHMARK, model.benchmarkCount());
        lookAt(OF_LINE, model.lineCount());
        lookAt(OF_PROFILE, model.profileCount());
        for (int i = 0; i < 40; i++) {
            compare("part", closingLine(), line());
            compare("ground", index(model.profileCount()), below(102) - 1);
        }
        for (int i = -1; i <= model.lineCount(); i++) {
            lookAtOutput("renderLine", i);
        }
        for (int i = -1; i <= model.benchmarkCount(); i++) {
            lookAtOutput("renderBenchmark", i);
        }
    }

    private void lookAt(String[] names, int count) {
        for (String name : names) {
            for (int i = -1; i <= count; i++) {
                compare(name, i);
            }
        }
    }

    private void lookAtOutput(String name, int index) {
        compare(name, index);
        for (int i = -1; i < 24; i++) {
            compare("outputAt", i);
        }
    }

    private void compare(String name, Object... arguments) {
        String call = name + Arrays.toString(arguments);
        String want = answer(model, MODEL_METHODS, name, arguments);
        String got = answer(program, PROGRAM_METHODS, name, arguments);
        if (!got.equals(want)) {
            CHECK.dueText("run " + run + ":" + told + " " + call, got, want);
            CHECK.end();
        }
        CHECK.due(name, true, true);
        if (!name.equals("outputAt")) {
            told.append(' ').append(call);
        }
        if (told.length() > 100000) {
            told.delete(0, 50000);
        }
    }

    private static String answer(Object object, Map<String, Method> methods, String name, Object... arguments) {
        try {
            return methods.get(name).invoke(object, arguments).toString();
        } catch (InvocationTargetException e) {
            return "throws " + e.getCause().getClass().getName();
        } catch (IllegalAccessException e) {
            return "is not accessible";
        }
    }

    private int below(int bound) {
        random = random * 6364136223846793005L + 1442695040888963407L;
        return (int) ((random >>> 33) % bound);
    }
}
