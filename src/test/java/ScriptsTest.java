import java.util.NoSuchElementException;

/** Promises 58 to 64: scripts, undo and the snapshot. */
final class ScriptsTest {
    private static final Check CHECK = new Check("ScriptsTest");
    private static final Class<IllegalArgumentException> ARGUMENT = IllegalArgumentException.class;
    private static final Class<IllegalStateException> STATE = IllegalStateException.class;
    private static final Class<NoSuchElementException> ELEMENT = NoSuchElementException.class;
    private static final String TEN_RESETS = "reset;reset;reset;reset;reset;reset;reset;reset;reset;reset";

    private ScriptsTest() {
    }

    public static void main(String[] args) {
        promise58Type();
        promise59Commands();
        promise59Failures();
        promise59FullBuffer();
        promise59IsOneChange();
        promise60ErrorPosition();
        promise60LatestScript();
        promise61FailedCommand();
        promise62Undo();
        promise62Depth();
        promise62Everything();
        promise62And64WhatIsNotCovered();
        promise63And64Snapshot();
        promise64AfterOtherThings();
        promise64NewThingsAfterwards();
        CHECK.end();
    }

    private static void promise58Type() {
        LevelingNetwork x = new LevelingNetwork();
        CHECK.due("type", x.type((char) 32), 1);
        CHECK.due("type", x.type((char) 126), 2);
        CHECK.dueThrow("type 31", ARGUMENT, () -> x.type((char) 31));
        CHECK.dueThrow("type 127", ARGUMENT, () -> x.type((char) 127));
        CHECK.dueThrow("type 0", ARGUMENT, () -> x.type((char) 0));
        CHECK.dueThrow("type 65535", ARGUMENT, () -> x.type((char) 65535));
        for (int i = 3; i <= 60; i++) {
            CHECK.due("type", x.type('a'), i);
        }
        CHECK.dueThrow("the 61st character", STATE, () -> x.type('a'));
        CHECK.dueThrow("the 61st character, not allowed", ARGUMENT, () -> x.type((char) 127));
        CHECK.dueThrow("runScript", ARGUMENT, x::runScript);
        CHECK.due("type after runScript", x.type('a'), 1);
    }

    private static void promise59Commands() {
        LevelingNetwork x = new LevelingNetwork();
        CHECK.due("runScript", Build.run(x, "point;point;point;line 01 -9/5;line 12 4/50"), 5);
        CHECK.due("secondOf", x.secondOf(1), 2);
        CHECK.due("levelledDifference", x.levelledDifference(0), -9);
        CHECK.due("lengthOf", x.lengthOf(1), 50);
        CHECK.due("runScript", Build.run(x, "line 20 6/05;fix 0 00012;back 02 -7;exclude 1"), 4);
        CHECK.due("lengthOf", x.lengthOf(2), 5);
        CHECK.due("height", x.height(0), 12);
        CHECK.due("discrepancy", x.discrepancy(2), -1);
        CHECK.due("isExcluded", x.isExcluded(1), true);
        CHECK.due("runScript", Build.run(x, "include 01;share 1;water -99999;profile 2"), 4);
        CHECK.due("isExcluded", x.isExcluded(1), false);
        CHECK.due("correction", x.correction(1), -1);
        CHECK.due("waterLevel", x.waterLevel(), -99999);
        CHECK.due("runScript", Build.run(x, "reset;station 0 7:-3;station 0 99:999;free 0;water -0"), 5);
        CHECK.due("correction", x.correction(1), 0);
        CHECK.due("stationCount", x.stationCount(0), 2);
        CHECK.due("lowestColumn", x.lowestColumn(0), 7);
        CHECK.due("isFixed", x.isFixed(0), false);
        CHECK.due("waterLevel", x.waterLevel(), 0);
    }

    /** One script for each way in which a method can throw. */
    private static void promise59Failures() {
        String[] scripts = {"fix 4 0", "free 4", "free 0", "line 04 0/1", "line 40 0/1", "line 00 0/1",
            "line 01 10000/1", "line 01 0/51", "line 01 0/00", "back 3 0", "back 0 -10000", "exclude 3",
            "include 3", "include 0", "share 3", "share 0", "profile 4", "station 0 0:0", "station 9 99:99999"};
        for (String script : scripts) {
            LevelingNetwork x = Build.triangle();
            Build.type(x, "water 5;" + script);
            CHECK.dueThrow(script, STATE, x::runScript);
            CHECK.due("failedCommand of " + script, x.failedCommand(), 1);
            CHECK.due("waterLevel after " + script, x.waterLevel(), 0);
            CHECK.due("lineCount after " + script, x.lineCount(), 3);
            CHECK.due("undo after " + script, x.undo(), 6);
        }
        LevelingNetwork y = Build.triangle();
        y.addLine(0, 1, 9000, 50);
        Build.type(y, "point;exclude 0;share 3;share 2;point");
        CHECK.dueThrow("share beyond the tolerance", STATE, y::runScript);
        CHECK.due("failedCommand", y.failedCommand(), 2);
        CHECK.due("benchmarkCount", y.benchmarkCount(), 4);
        CHECK.due("isExcluded", y.isExcluded(0), false);
    }

    private static void promise59FullBuffer() {
        LevelingNetwork x = new LevelingNetwork();
        CHECK.due("runScript", Build.run(x, TEN_RESETS), 10);
        Build.type(x, TEN_RESETS + ";");
        CHECK.dueThrow("a semicolon too many", ARGUMENT, x::runScript);
        CHECK.due("errorPosition", x.errorPosition(), 60);
        CHECK.due("ten points", Build.run(x, TEN_RESETS.replace("reset", "point")), 10);
        Build.type(x, "reset;reset;point;reset");
        CHECK.dueThrow("the 11th point", STATE, x::runScript);
        CHECK.due("failedCommand", x.failedCommand(), 2);
        CHECK.due("the buffer is empty", x.type('a'), 1);
    }

    private static void promise59IsOneChange() {
        LevelingNetwork x = Build.benchmarks(1);
        Build.run(x, "point;point;fix 0 5");
        CHECK.due("undo", x.undo(), 1);
        CHECK.due("benchmarkCount", x.benchmarkCount(), 1);
        CHECK.due("isFixed", x.isFixed(0), false);
        Build.run(x, "reset");
        CHECK.due("undo of a script without effect", x.undo(), 1);
        Build.type(x, "point;");
        CHECK.dueThrow("a malformed script is executed in no part", ARGUMENT, x::runScript);
        CHECK.due("benchmarkCount", x.benchmarkCount(), 1);
        CHECK.due("undo", x.undo(), 0);
    }

    private static void dueError(LevelingNetwork x, String script, int want) {
        Build.type(x, script);
        CHECK.dueThrow("runScript " + script, ARGUMENT, x::runScript);
        CHECK.due("errorPosition of " + script, x.errorPosition(), want);
    }

    private static void promise60ErrorPosition() {
        LevelingNetwork x = Build.triangle();
        String[] tooEarly = {"", "p", "poin", "pr", "profile", "profile ", "f", "fix ", "fix 0", "fix 0 ", "fix 0 -",
            "line ", "line 0", "line 01", "line 01 ", "line 01 5", "line 01 -55555", "line 01 5/", "back 1", "back 12",
            "back 12 ", "s", "st", "station 0 ", "station 0 1", "station 0 1:", "station 0 12:-", "share ", "sh", "e",
            "water ", "reset;", "point;fr"};
        for (String script : tooEarly) {
            dueError(x, script, script.length());
        }
        // the sign ^ stands before the first character that cannot go on
        String[] wrong = {"^;", "^ point", "^Point", "p^x", "po^ ", "pro^int", "poi^m", "point^ p", "point;^;p",
            "point;^ reset", "f^", "fi^ ", "fr^ix 0", "fix ^-1 0", "fix 0^1 0", "fix 0 ^ 1", "fix 0 ^+1", "fix 0 -^-1",
            "fix 0 12345^6", "fix 0 -12345^6", "fix 0 1^ ", "free 0^0", "line 0^ 1 5/1", "line 01 ^/5",
            "line 01 5^ /5", "line 01 5/^-5", "line 01 5/12^3", "back 12^3 0", "back ^-1 0", "back 1 ^ 1",
            "exclude 12^ ", "exclude ^x", "i^x", "include 00^0", "share 1^-", "sha^pe", "st^o", "reset^s",
            "profile 1^0", "station 0^0 1:1", "station 0 ^:1", "station 0 1^ :1", "station 0 12^3:1",
            "station 0 1:^:", "water ^w", "water 5^:", "w^ ", "reset;free 0^,"};
        for (String marked : wrong) {
            dueError(x, marked.replace("^", ""), marked.indexOf('^'));
        }
        dueError(x, "^point", 0);
    }

    private static void promise60LatestScript() {
        LevelingNetwork x = Build.triangle();
        CHECK.dueThrow("errorPosition without a script", ELEMENT, x::errorPosition);
        Build.run(x, "reset");
        Build.type(x, "free 0");
        CHECK.dueThrow("a failing script", STATE, x::runScript);
        CHECK.dueThrow("errorPosition without a malformed script", ELEMENT, x::errorPosition);
        dueError(x, "fix x", 4);
        Build.run(x, "reset");
        Build.type(x, "free 0");
        CHECK.dueThrow("a failing script", STATE, x::runScript);
        CHECK.due("errorPosition is kept", x.errorPosition(), 4);
        dueError(x, "x", 0);
        x.save();
        dueError(x, "rx", 1);
        x.restore();
        CHECK.due("errorPosition is kept", x.errorPosition(), 1);
    }

    private static void promise61FailedCommand() {
        LevelingNetwork x = Build.triangle();
        CHECK.dueThrow("failedCommand without a script", ELEMENT, x::failedCommand);
        dueError(x, "free 0;x", 7);
        CHECK.dueThrow("failedCommand without a failed command", ELEMENT, x::failedCommand);
        Build.type(x, "reset;reset;free 0;free 1");
        CHECK.dueThrow("a failing script", STATE, x::runScript);
        CHECK.due("failedCommand", x.failedCommand(), 2);
        Build.run(x, "reset");
        dueError(x, "x", 0);
        CHECK.due("failedCommand is kept", x.failedCommand(), 2);
        Build.type(x, "free 0");
        CHECK.dueThrow("a failing script", STATE, x::runScript);
        CHECK.due("failedCommand", x.failedCommand(), 0);
    }

    private static void promise62Undo() {
        LevelingNetwork x = Build.benchmarks(2);
        CHECK.due("undo", x.undo(), 1);
        CHECK.due("benchmarkCount", x.benchmarkCount(), 1);
        CHECK.dueThrow("a failed change", IndexOutOfBoundsException.class, () -> x.fix(1, 5));
        x.setWaterLevel(0);
        CHECK.due("undo of a change without effect", x.undo(), 1);
        CHECK.due("undo", x.undo(), 0);
        CHECK.due("benchmarkCount", x.benchmarkCount(), 0);
        CHECK.dueThrow("undo of nothing", ELEMENT, x::undo);
        x.addBenchmark();
        CHECK.due("undo after a new change", x.undo(), 0);
    }

    private static void promise62Depth() {
        LevelingNetwork x = new LevelingNetwork();
        for (int i = 1; i <= 21; i++) {
            x.setWaterLevel(i);
        }
        for (int i = 7; i >= 5; i--) {
            CHECK.due("undo", x.undo(), i);
            CHECK.due("waterLevel", x.waterLevel(), 13 + i);
        }
        x.setWaterLevel(100);
        for (int i = 5; i >= 0; i--) {
            CHECK.due("undo", x.undo(), i);
            CHECK.due("waterLevel", x.waterLevel(), 13 + i);
        }
        CHECK.dueThrow("the 9th undo", ELEMENT, x::undo);
    }

    private static void promise62Everything() {
        LevelingNetwork x = Build.triangle();
        x.addProfile(0);
        x.addStation(0, 1, 1);
        x.fix(0, 10);
        x.addBackwardRun(0, -101);
        x.undo();
        CHECK.due("levelledDifference", x.levelledDifference(0), 100);
        CHECK.dueThrow("discrepancy", ELEMENT, () -> x.discrepancy(0));
        x.fix(0, 20);
        x.undo();
        CHECK.due("height", x.height(0), 10);
        x.release(0);
        x.undo();
        CHECK.due("isFixed", x.isFixed(0), true);
        x.shareMisclosure(2);
        x.resetCorrections();
        x.undo();
        CHECK.due("correction", x.correction(2), -5);
        x.undo();
        CHECK.due("correction", x.correction(2), 0);
        x.exclude(1);
        x.include(1);
        x.undo();
        CHECK.due("isExcluded", x.isExcluded(1), true);
        x.undo();
        CHECK.due("isExcluded", x.isExcluded(1), false);
        x.addStation(0, 2, 7);
        x.undo();
        CHECK.due("stationCount", x.stationCount(0), 1);
        x.addStation(0, 2, 9);
        CHECK.due("ground", x.ground(0, 2), 19);
        x.addProfile(1);
        x.undo();
        CHECK.due("profileCount", x.profileCount(), 1);
        x.addLine(0, 3, 1, 1);
        x.undo();
        CHECK.due("lineCount", x.lineCount(), 3);
    }

    /** After the snapshot its things are undone, and other ones take their places. */
    private static void promise64AfterOtherThings() {
        LevelingNetwork x = Build.benchmarks(3);
        x.fix(1, 8);
        addThings(x, 0, 1, 11, 5);
        x.save();
        for (int i = 0; i < 5; i++) {
            x.undo();
        }
        addThings(x, 2, 0, 44, 7);
        x.restore();
        CHECK.due("firstOf", x.firstOf(0), 0);
        CHECK.due("secondOf", x.secondOf(0), 1);
        CHECK.due("lengthOf", x.lengthOf(0), 5);
        CHECK.due("levelledDifference", x.levelledDifference(0), 11);
        CHECK.due("discrepancy", x.discrepancy(0), 0);
        CHECK.due("ground", x.ground(0, 5), -3 + 5);
        CHECK.due("ground", x.ground(0, 7), -3 + 11);
    }

    private static void addThings(LevelingNetwork x, int benchmark, int other, int forward, int length) {
        x.addLine(benchmark, other, forward, length);
        x.addBackwardRun(0, -forward);
        x.addProfile(benchmark);
        x.addStation(0, length, length);
        x.addStation(0, length + 2, forward);
    }

    /** What the places held before must not be seen in new things. */
    private static void promise64NewThingsAfterwards() {
        LevelingNetwork x = new LevelingNetwork();
        x.save();
        for (int i = 0; i < 2; i++) {
            x.restore();
            x.addBenchmark();
            x.addBenchmark();
            x.addLine(0, 1, 3, 1);
            x.addLine(0, 1, 1, 1);
            x.addProfile(0);
            CHECK.due("isFixed", x.isFixed(0), false);
            CHECK.dueThrow("discrepancy", ELEMENT, () -> x.discrepancy(0));
            CHECK.due("isExcluded", x.isExcluded(1), false);
            CHECK.due("correction", x.correction(0), 0);
            CHECK.due("levelledDifference", x.levelledDifference(0), 3);
            CHECK.due("stationCount", x.stationCount(0), 0);
            x.shareMisclosure(1);
            x.fix(0, 5);
            x.addBackwardRun(0, -1);
            x.exclude(1);
            x.addStation(0, 5, 5);
        }
    }

    private static void promise62And64WhatIsNotCovered() {
        LevelingNetwork x = Build.benchmarks(1);
        x.save();
        x.addBenchmark();
        Build.type(x, "poi");
        x.renderBenchmark(0);
        x.undo();
        x.addBenchmark();
        x.restore();
        CHECK.dueText("output is kept", Build.output(x, 3), "0=?");
        CHECK.due("the buffer is kept", x.type('n'), 4);
        CHECK.due("runScript", Build.run(x, "t"), 1);
        CHECK.due("benchmarkCount", x.benchmarkCount(), 2);
    }

    private static void promise63And64Snapshot() {
        LevelingNetwork x = Build.triangle();
        CHECK.dueThrow("restore without a snapshot", STATE, x::restore);
        CHECK.due("save", x.save(), 3);
        CHECK.due("undo after save", x.undo(), 6);
        x.fix(0, 5);
        x.addProfile(0);
        x.setWaterLevel(9);
        CHECK.due("restore", x.restore(), 3);
        CHECK.due("isFixed", x.isFixed(0), false);
        CHECK.due("profileCount", x.profileCount(), 0);
        CHECK.due("waterLevel", x.waterLevel(), 0);
        CHECK.dueThrow("undo after restore", ELEMENT, x::undo);
        x.addLine(0, 3, 1, 1);
        CHECK.due("restore again", x.restore(), 3);
        x.addLine(0, 3, 1, 1);
        CHECK.due("save another", x.save(), 4);
        CHECK.due("undo past the snapshot", x.undo(), 0);
        CHECK.due("restore the other", x.restore(), 4);
        LevelingNetwork y = new LevelingNetwork();
        CHECK.due("save of nothing", y.save(), 0);
        CHECK.due("restore of nothing", y.restore(), 0);
    }
}
