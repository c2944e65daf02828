import java.util.NoSuchElementException;

/** Promises 58 to 61 at their edges: the characters, the full buffer, digits, commands that just fail, positions. */
public final class ScriptsEdgesTest {
    private static final Check CHECK = new Check("ScriptsEdgesTest");
    private static final Class<IllegalArgumentException> ARGUMENT = IllegalArgumentException.class;
    private static final Class<IllegalStateException> STATE = IllegalStateException.class;
    private static final Class<NoSuchElementException> ELEMENT = NoSuchElementException.class;
    private static final String TEN_RESETS = "reset;".repeat(10).substring(0, 59);
    private static final Scene TYPED_FULL = new Scene("with a full buffer", () -> typed("water 7;".repeat(8), 60));

    private ScriptsEdgesTest() {
    }

    public static void main(String[] args) {
        promise58EveryCharacter();
        promise58LastCharacter();
        promise58BufferAfterwards();
        promise59NumberOfCommands();
        promise59Values();
        promise59Numbers();
        promise59LastAllowed();
        promise59FirstNotAllowed();
        promise59FullNetwork();
        promise59ChangesWithinAScript();
        promise60Least();
        promise60Greatest();
        promise60EveryCharacterEverywhere();
        promise60NoSuchScript();
        promise61EveryIndex();
        promise61NoSuchScript();
        CHECK.end();
    }

    private static LevelingNetwork typed(String text, int count) {
        LevelingNetwork x = Build.triangle();
        Build.type(x, text.substring(0, count));
        return x;
    }

    private static void promise58EveryCharacter() {
        for (int code = 0; code < 600; code++) {
            dueTyped(code);
        }
        for (int code : new int[] {0x1041, 0x7FFF, 0x8000, 0x8041, 0xFF20, 0xFFFE, 0xFFFF}) {
            dueTyped(code);
        }
        for (char code : new char[] {0, 31, 127, 128, 0xFFFF}) {
            Scene.EMPTY.refuses(CHECK, "promise 58: type " + (int) code, ARGUMENT, x -> x.type(code));
            Scene.FULL.refuses(CHECK, "promise 58: type " + (int) code, ARGUMENT, x -> x.type(code));
            TYPED_FULL.refuses(CHECK, "promise 58: type " + (int) code, ARGUMENT, x -> x.type(code));
        }
    }

    private static void dueTyped(int code) {
        LevelingNetwork x = new LevelingNetwork();
        if (code >= 32 && code <= 126) {
            CHECK.due("promise 58: type " + code, x.type((char) code), 1);
        } else {
            CHECK.dueThrow("promise 58: type " + code, ARGUMENT, () -> x.type((char) code));
            CHECK.due("promise 58: the buffer is still empty", x.type('a'), 1);
        }
    }

    private static void promise58LastCharacter() {
        LevelingNetwork x = new LevelingNetwork();
        for (int i = 1; i <= 60; i++) {
            CHECK.due("promise 58: character " + i, x.type(i % 2 == 0 ? ' ' : '~'), i);
        }
        for (char code : new char[] {32, '7', ';', 126}) {
            TYPED_FULL.refuses(CHECK, "promise 58: the 61st character " + code, STATE, y -> y.type(code));
        }
        CHECK.due("promise 58: the 60th", typed("water 7;".repeat(8), 59).type('a'), 60);
    }

    /** The buffer is empty after a script that runs, one without the form, and one with a failing command. */
    private static void promise58BufferAfterwards() {
        for (String text : new String[] {"reset", "rest", "free 0"}) {
            LevelingNetwork x = Build.triangle();
            for (int round = 0; round < 2; round++) {
                Build.type(x, text);
                run(x);
                CHECK.due("promise 58: the buffer after " + text, x.type('w'), 1);
                Build.type(x, "ater " + round);
                CHECK.due("promise 59: the next script after " + text, x.runScript(), 1);
                CHECK.due("promise 59: its effect", x.waterLevel(), round);
            }
        }
    }

    private static void run(LevelingNetwork x) {
        try {
            x.runScript();
        } catch (IllegalArgumentException | IllegalStateException e) {
            return;
        }
    }

    private static void promise59NumberOfCommands() {
        for (int count = 1; count <= 10; count++) {
            LevelingNetwork x = new LevelingNetwork();
            String text = "point;".repeat(count);
            CHECK.due("promise 59: commands", Build.run(x, text.substring(0, text.length() - 1)), count);
            CHECK.due("promise 59: benchmarks", x.benchmarkCount(), count);
            CHECK.due("promise 62: one change", x.undo(), 0);
            CHECK.due("promise 62: all undone", x.benchmarkCount(), 0);
        }
        LevelingNetwork x = Build.benchmarks(1);
        String sixty = "reset;".repeat(7) + "water 1234;fix 0 0";
        CHECK.due("promise 58: 60 characters", sixty.length(), 60);
        CHECK.due("promise 59: a script of 60 characters", Build.run(x, sixty), 9);
        CHECK.due("promise 59: its last command", x.height(0), 0);
    }

    private static void promise59Values() {
        String[] values = {"0", "-0", "00000", "-00000", "7", "-7", "07", "-07", "10", "-10", "999", "-999", "1234",
            "-1234", "00012", "-00012", "99999", "-99999", "10000", "-10000"};
        for (String value : values) {
            LevelingNetwork x = Build.benchmarks(1);
            CHECK.due("promise 59: water " + value, Build.run(x, "water " + value), 1);
            CHECK.due("promise 59: waterLevel " + value, x.waterLevel(), Integer.parseInt(value));
            CHECK.due("promise 59: fix 0 " + value, Build.run(x, "fix 0 " + value), 1);
            CHECK.due("promise 59: height " + value, x.height(0), Integer.parseInt(value));
        }
        dueError("water 123456", 11);
        dueError("water 000000", 11);
        dueError("water -123456", 12);
        dueError("water --1", 7);
        dueError("water +1", 6);
        dueError("water -", 7);
        dueError("water ", 6);
    }

    private static void promise59Numbers() {
        for (String number : new String[] {"2", "02"}) {
            LevelingNetwork x = Build.triangle();
            Build.run(x, "exclude " + number);
            CHECK.due("promise 59: exclude " + number, x.isExcluded(2), true);
            Build.run(x, "include " + number + ";share " + number + ";back " + number + " 140");
            CHECK.due("promise 59: include " + number, x.isExcluded(2), false);
            CHECK.due("promise 59: share " + number, x.correction(2), -5);
            CHECK.due("promise 59: back " + number, x.discrepancy(2), 0);
            Build.run(x, "line 03 1/" + number + ";profile 0;station 0 " + number + ":-1");
            CHECK.due("promise 59: length " + number, x.lengthOf(3), 2);
            CHECK.due("promise 59: distance " + number, x.lowestColumn(0), 2);
        }
        for (String start : new String[] {"exclude ", "include ", "share ", "back ", "line 01 0/", "station 0 "}) {
            dueError(start + "000", start.length() + 2);
            dueError(start + "-1", start.length());
            dueError(start, start.length());
        }
    }

    private static void dueError(String text, int want) {
        LevelingNetwork x = Build.triangle();
        Build.type(x, text);
        CHECK.dueThrow("promise 59: \"" + text + "\"", ARGUMENT, x::runScript);
        CHECK.due("promise 60: errorPosition of \"" + text + "\"", x.errorPosition(), want);
    }

    private static void promise59LastAllowed() {
        LevelingNetwork x = Build.benchmarks(9);
        CHECK.due("promise 59: points and heights", Build.run(x, "point;fix 9 99999;fix 0 -99999;free 9;free 0"), 5);
        CHECK.due("promise 59: lines", Build.run(x, "line 09 9999/50;line 90 -9999/1"), 2);
        CHECK.due("promise 59: forward", x.levelledDifference(0), 9999);
        CHECK.due("promise 59: length", x.lengthOf(0), 50);
        CHECK.due("promise 59: forward", x.levelledDifference(1), -9999);
        CHECK.due("promise 59: length", x.lengthOf(1), 1);
        for (int i = 2; i < 16; i++) {
            CHECK.due("promise 59: line " + i, Build.run(x, "line 09 0/50"), 1);
        }
        CHECK.due("promise 59: the last line", Build.run(x, "back 15 9999;back 14 -9999;exclude 15;include 15"), 4);
        CHECK.due("promise 59: its discrepancy", x.discrepancy(15), 9999);
        CHECK.due("promise 59: the other one's", x.discrepancy(14), -9999);
        CHECK.due("promise 59: profiles", Build.run(x, "profile 9;profile 0;profile 0;profile 0"), 4);
        CHECK.due("promise 59: stations", Build.run(x, "station 3 0:-999;station 3 99:999;station 0 99:0"), 3);
        CHECK.due("promise 59: the last profile", x.stationCount(3), 2);
    }

    /** Behind a command that would succeed, each of these is the first one beyond what is allowed. */
    private static void promise59FirstNotAllowed() {
        String[] commands = {"fix 4 0", "free 4", "free 0", "line 04 0/1", "line 40 0/1", "line 00 0/1",
            "line 01 10000/1", "line 01 -10000/1", "line 01 99999/1", "line 01 0/0", "line 01 0/51", "line 01 0/99",
            "back 5 0", "back 0 10000", "back 0 -10000", "back 4 0", "exclude 5", "exclude 99", "include 5",
            "include 0", "share 5", "share 0", "share 4", "share 3", "profile 4", "profile 9", "station 2 50:0",
            "station 0 27:0", "station 0 26:0", "station 0 28:1000", "station 0 28:-1000", "station 1 0:99999"};
        for (String command : commands) {
            Scene.PARTLY.refusesScript(CHECK, "water 5;" + command, STATE);
            LevelingNetwork x = Scene.PARTLY.make();
            Build.type(x, "water 5;" + command + ";point");
            CHECK.dueThrow("promise 59: " + command, STATE, x::runScript);
            CHECK.due("promise 61: failedCommand of " + command, x.failedCommand(), 1);
        }
    }

    /** The buffer of the scene holds "water 7" already. */
    private static void promise59FullNetwork() {
        String[] commands = {"point", "free 0", "line 01 0/1", "back 0 0", "exclude 10", "include 11", "share 12",
            "share 0", "profile 0", "station 0 99:0", "station 2 99:0", "exclude 16", "station 4 0:0"};
        for (String command : commands) {
            Scene.FULL.refusesScript(CHECK, ";" + command, STATE);
            Scene.FULL.refusesScript(CHECK, ";reset;fix 1 9;exclude 0;free 9;" + command, STATE);
        }
        for (String text : new String[] {";", ";poin", "x", ";reset;", "00000", ";reset ;point"}) {
            Scene.FULL.refusesScript(CHECK, text, ARGUMENT);
        }
        Scene.EMPTY.refusesScript(CHECK, "", ARGUMENT);
        Scene.PARTLY.refusesScript(CHECK, "", ARGUMENT);
        Scene.PARTLY.refusesScript(CHECK, TEN_RESETS + ";", ARGUMENT);
        TYPED_FULL.refusesScript(CHECK, "", ARGUMENT);
    }

    /** Each command meets what the ones before it left. */
    private static void promise59ChangesWithinAScript() {
        LevelingNetwork x = new LevelingNetwork();
        String script = "point;point;line 01 5/1;line 10 -4/1;share 1;exclude 0";
        CHECK.due("promise 59: from nothing", Build.run(x, script), 6);
        CHECK.due("promise 59: correction(0)", x.correction(0), -1);
        CHECK.due("promise 59: correction(1)", x.correction(1), 0);
        CHECK.due("promise 59: isInForest(1)", x.isInForest(1), true);
        Build.type(x, "include 0;exclude 1;share 1");
        CHECK.dueThrow("promise 59: no loop any more", STATE, x::runScript);
        CHECK.due("promise 61: failedCommand()", x.failedCommand(), 2);
        CHECK.due("promise 59: isExcluded(0) as before", x.isExcluded(0), true);
    }

    private static void promise60Least() {
        for (String text : new String[] {"", " ", "~", ";", "0", "Point", "xpoint", ";point", "q".repeat(60)}) {
            dueError(text, 0);
        }
    }

    private static void promise60Greatest() {
        dueError(TEN_RESETS + ";", 60);
        dueError(TEN_RESETS + "x", 59);
        dueError(TEN_RESETS.substring(0, 54) + "point ", 59);
        dueError(TEN_RESETS.substring(0, 54) + "free ", 59);
        dueError(TEN_RESETS.substring(0, 54) + "water ", 60);
        dueError(TEN_RESETS.substring(0, 58), 58);
        dueError("water 7;".repeat(8).substring(0, 60), 60);
    }

    /** Behind each beginning of a script each character; what stands behind the first wrong one does not count. */
    private static void promise60EveryCharacterEverywhere() {
        String[] scripts = {"point;point", "fix 0 -12345;", "free 9;", "line 01 -99999/50;", "back 07 -12345;",
            "exclude 00;", "include 9;", "share 15;", "reset;r", "profile 3;p", "station 3 99:-00999;s",
            "water 12345;w"};
        for (String script : scripts) {
            for (int end = 0; end <= script.length(); end++) {
                String start = script.substring(0, end);
                for (char code = 32; code < 127; code++) {
                    duePosition(start + code);
                    duePosition(start + code + ";point");
                }
                duePosition(start);
            }
        }
    }

    private static void duePosition(String text) {
        if (Model.isScript(text)) {
            LevelingNetwork x = new LevelingNetwork();
            Build.type(x, text);
            run(x);
            CHECK.dueThrow("promise 60: errorPosition of \"" + text + "\"", ELEMENT, x::errorPosition);
        } else {
            dueError(text, Model.errorPositionOf(text));
        }
    }

    private static void promise60NoSuchScript() {
        Scene.PARTLY.refuses(CHECK, "promise 60: errorPosition() before any script", ELEMENT,
                LevelingNetwork::errorPosition);
        LevelingNetwork x = Build.triangle();
        Build.run(x, "reset");
        Build.type(x, "free 0");
        run(x);
        CHECK.dueThrow("promise 60: after other scripts", ELEMENT, x::errorPosition);
        run(x);
        CHECK.due("promise 60: of the empty script", x.errorPosition(), 0);
    }

    private static void promise61EveryIndex() {
        for (int index = 0; index < 10; index++) {
            LevelingNetwork x = Build.benchmarks(10);
            String text = TEN_RESETS.substring(0, 6 * index) + "point" + TEN_RESETS.substring(6 * index + 5);
            Build.type(x, text);
            CHECK.dueThrow("promise 59: " + text, STATE, x::runScript);
            CHECK.due("promise 61: failedCommand of " + text, x.failedCommand(), index);
        }
    }

    private static void promise61NoSuchScript() {
        Scene.PARTLY.refuses(CHECK, "promise 61: failedCommand() before any script", ELEMENT,
                LevelingNetwork::failedCommand);
        LevelingNetwork x = Build.triangle();
        Build.run(x, "reset");
        run(x);
        CHECK.dueThrow("promise 61: after other scripts", ELEMENT, x::failedCommand);
        Build.type(x, "point;free 0;free 1");
        run(x);
        CHECK.due("promise 61: the first one that fails", x.failedCommand(), 1);
    }
}
