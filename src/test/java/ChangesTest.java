import java.util.NoSuchElementException;

/** Promises 1 to 13: a new object and the changes. */
final class ChangesTest {
    private static final Check CHECK = new Check("ChangesTest");
    private static final Class<IndexOutOfBoundsException> INDEX = IndexOutOfBoundsException.class;
    private static final Class<IllegalArgumentException> ARGUMENT = IllegalArgumentException.class;
    private static final Class<IllegalStateException> STATE = IllegalStateException.class;
    private static final Class<NoSuchElementException> ELEMENT = NoSuchElementException.class;

    private ChangesTest() {
    }

    public static void main(String[] args) {
        promise1NewObject();
        promise2AddBenchmark();
        promise3Fix();
        promise4Release();
        promise5AddLine();
        promise5OrderOfExceptions();
        promise6AddBackwardRun();
        promise7And8ExcludeAndInclude();
        promise9ShareMisclosure();
        promise9Directions();
        promise9Tolerance();
        promise9KeepsCorrections();
        promise10ResetCorrections();
        promise11AddProfile();
        promise12AddStation();
        promise13SetWaterLevel();
        CHECK.end();
    }

    private static void promise1NewObject() {
        LevelingNetwork x = new LevelingNetwork();
        CHECK.due("benchmarkCount of a new object", x.benchmarkCount(), 0);
        CHECK.due("lineCount of a new object", x.lineCount(), 0);
        CHECK.due("profileCount of a new object", x.profileCount(), 0);
        CHECK.due("waterLevel of a new object", x.waterLevel(), 0);
        CHECK.due("treeCount of a new object", x.treeCount(), 0);
        CHECK.due("loopCount of a new object", x.loopCount(), 0);
        CHECK.due("forestLength of a new object", x.forestLength(), 0);
        CHECK.due("isConsistent of a new object", x.isConsistent(), true);
        CHECK.dueThrow("undo on a new object", ELEMENT, x::undo);
        CHECK.dueThrow("outputAt on a new object", INDEX, () -> x.outputAt(0));
    }

    private static void promise2AddBenchmark() {
        LevelingNetwork x = new LevelingNetwork();
        for (int i = 0; i < 10; i++) {
            CHECK.due("addBenchmark", x.addBenchmark(), i);
            CHECK.due("a new benchmark is free", x.isFixed(i), false);
        }
        CHECK.dueThrow("the 11th addBenchmark", STATE, x::addBenchmark);
        CHECK.due("benchmarkCount", x.benchmarkCount(), 10);
    }

    private static void promise3Fix() {
        LevelingNetwork x = Build.benchmarks(3);
        CHECK.due("fix", x.fix(2, 99999), 1);
        CHECK.due("fix", x.fix(0, -99999), 2);
        CHECK.due("fix again", x.fix(2, 7), 2);
        CHECK.due("height", x.height(2), 7);
        CHECK.dueThrow("fix too high", ARGUMENT, () -> x.fix(1, 100000));
        CHECK.dueThrow("fix too low", ARGUMENT, () -> x.fix(1, -100000));
        CHECK.dueThrow("fix beyond", INDEX, () -> x.fix(3, 0));
        CHECK.dueThrow("fix below", INDEX, () -> x.fix(-1, 0));
        CHECK.dueThrow("fix beyond and too high", INDEX, () -> x.fix(3, 100000));
        CHECK.due("isFixed", x.isFixed(1), false);
    }

    private static void promise4Release() {
        LevelingNetwork x = Build.benchmarks(2);
        x.fix(1, -250);
        CHECK.dueThrow("release of a free one", STATE, () -> x.release(0));
        CHECK.dueThrow("release beyond", INDEX, () -> x.release(2));
        CHECK.dueThrow("release below", INDEX, () -> x.release(-1));
        CHECK.due("release", x.release(1), -250);
        CHECK.due("isFixed", x.isFixed(1), false);
        CHECK.dueThrow("release twice", STATE, () -> x.release(1));
        CHECK.due("fix after release", x.fix(0, 1), 1);
    }

    private static void promise5AddLine() {
        LevelingNetwork x = Build.benchmarks(10);
        CHECK.due("addLine", x.addLine(0, 9, 9999, 50), 0);
        CHECK.due("addLine between the same", x.addLine(9, 0, -9999, 1), 1);
        for (int i = 2; i < 16; i++) {
            CHECK.due("addLine", x.addLine(0, 1, 0, 1), i);
        }
        CHECK.dueThrow("the 17th addLine", STATE, () -> x.addLine(0, 1, 0, 1));
        CHECK.due("lineCount", x.lineCount(), 16);
        CHECK.due("levelledDifference", x.levelledDifference(1), -9999);
        CHECK.due("correction", x.correction(0), 0);
        CHECK.due("isExcluded", x.isExcluded(0), false);
        CHECK.due("isUsable", x.isUsable(0), true);
    }

    private static void promise5OrderOfExceptions() {
        LevelingNetwork x = Build.benchmarks(2);
        CHECK.dueThrow("first beyond", INDEX, () -> x.addLine(2, 1, 0, 1));
        CHECK.dueThrow("first below", INDEX, () -> x.addLine(-1, 1, 0, 1));
        CHECK.dueThrow("second beyond", INDEX, () -> x.addLine(0, 2, 0, 1));
        CHECK.dueThrow("second below", INDEX, () -> x.addLine(0, -1, 0, 1));
        CHECK.dueThrow("both beyond and same", INDEX, () -> x.addLine(2, 2, 0, 0));
        CHECK.dueThrow("same benchmarks", ARGUMENT, () -> x.addLine(1, 1, 0, 1));
        CHECK.dueThrow("run too great", ARGUMENT, () -> x.addLine(0, 1, 10000, 1));
        CHECK.dueThrow("run too small", ARGUMENT, () -> x.addLine(0, 1, -10000, 1));
        CHECK.dueThrow("length 0", ARGUMENT, () -> x.addLine(0, 1, 0, 0));
        CHECK.dueThrow("length 51", ARGUMENT, () -> x.addLine(0, 1, 0, 51));
        CHECK.due("lineCount", x.lineCount(), 0);
        for (int i = 0; i < 16; i++) {
            x.addLine(0, 1, 0, 1);
        }
        CHECK.dueThrow("full and beyond", INDEX, () -> x.addLine(0, 2, 0, 1));
        CHECK.dueThrow("full and same", ARGUMENT, () -> x.addLine(0, 0, 0, 1));
    }

    private static void promise6AddBackwardRun() {
        LevelingNetwork x = Build.triangle();
        CHECK.dueThrow("line beyond", INDEX, () -> x.addBackwardRun(3, 0));
        CHECK.dueThrow("line below", INDEX, () -> x.addBackwardRun(-1, 0));
        CHECK.dueThrow("line beyond and run too great", INDEX, () -> x.addBackwardRun(3, 10000));
        CHECK.dueThrow("run too great", ARGUMENT, () -> x.addBackwardRun(0, 10000));
        CHECK.dueThrow("run too small", ARGUMENT, () -> x.addBackwardRun(0, -10000));
        CHECK.due("addBackwardRun", x.addBackwardRun(0, -103), -3);
        CHECK.due("addBackwardRun", x.addBackwardRun(1, 9999), 10049);
        CHECK.due("addBackwardRun", x.addBackwardRun(2, -9999), -10139);
        CHECK.dueThrow("second backward run", STATE, () -> x.addBackwardRun(0, -103));
        CHECK.dueThrow("second backward run, too great", ARGUMENT, () -> x.addBackwardRun(0, 10000));
    }

    private static void promise7And8ExcludeAndInclude() {
        LevelingNetwork x = Build.triangle();
        CHECK.dueThrow("exclude beyond", INDEX, () -> x.exclude(3));
        CHECK.dueThrow("exclude below", INDEX, () -> x.exclude(-1));
        CHECK.dueThrow("include beyond", INDEX, () -> x.include(3));
        CHECK.dueThrow("include below", INDEX, () -> x.include(-1));
        CHECK.dueThrow("include what is not excluded", STATE, () -> x.include(0));
        CHECK.due("exclude", x.exclude(0), 2);
        CHECK.due("isExcluded", x.isExcluded(0), true);
        CHECK.dueThrow("exclude twice", STATE, () -> x.exclude(0));
        x.addBackwardRun(1, 1000);
        CHECK.due("exclude an unusable one", x.exclude(1), 1);
        CHECK.due("include an unusable one", x.include(1), 1);
        CHECK.due("include", x.include(0), 2);
        CHECK.due("isExcluded", x.isExcluded(0), false);
        CHECK.dueThrow("include twice", STATE, () -> x.include(0));
    }

    private static void promise9ShareMisclosure() {
        LevelingNetwork x = Build.triangle();
        CHECK.dueThrow("share beyond", INDEX, () -> x.shareMisclosure(3));
        CHECK.dueThrow("share below", INDEX, () -> x.shareMisclosure(-1));
        CHECK.dueThrow("share of a forest line", ELEMENT, () -> x.shareMisclosure(0));
        CHECK.due("shareMisclosure", x.shareMisclosure(2), 10);
        // 10 * 5 / 17 = 2 remainder 16, 10 * 3 / 17 = 1 remainder 13, 10 * 9 / 17 = 5 remainder 5
        CHECK.due("correction", x.correction(0), -3);
        CHECK.due("correction", x.correction(1), -2);
        CHECK.due("correction", x.correction(2), -5);
        CHECK.due("misclosure", x.misclosure(2), 0);
        CHECK.due("shareMisclosure of nothing", x.shareMisclosure(2), 0);
        CHECK.due("correction", x.correction(1), -2);
        x.exclude(2);
        CHECK.dueThrow("share of an unusable line", ELEMENT, () -> x.shareMisclosure(2));
    }

    /** The line 3 is passed backwards, and equal remainders prefer lower indices. */
    private static void promise9Directions() {
        LevelingNetwork x = Build.benchmarks(3);
        x.addLine(0, 1, 10, 2);
        x.addLine(2, 1, 10, 2);
        x.addLine(0, 2, -5, 2);
        CHECK.due("shareMisclosure", x.shareMisclosure(2), -5);
        CHECK.due("correction", x.correction(0), -2);
        CHECK.due("correction", x.correction(1), 2);
        CHECK.due("correction", x.correction(2), 1);
        CHECK.due("misclosure", x.misclosure(2), 0);
    }

    private static void promise9Tolerance() {
        LevelingNetwork x = Build.benchmarks(2);
        x.addLine(0, 1, 0, 1);
        x.addLine(1, 0, 4, 1);
        x.addLine(1, 0, -5, 1);
        x.addLine(1, 0, -12, 15);
        x.addLine(0, 1, 13, 15);
        CHECK.due("at the tolerance", x.shareMisclosure(1), 4);
        x.undo();
        CHECK.dueThrow("below minus the tolerance", UnsupportedOperationException.class, () -> x.shareMisclosure(2));
        CHECK.dueThrow("above the tolerance", UnsupportedOperationException.class, () -> x.shareMisclosure(4));
        CHECK.due("at minus the tolerance", x.shareMisclosure(3), -12);
        CHECK.due("correction", x.correction(0), 1);
        CHECK.due("correction", x.correction(3), 11);
        CHECK.due("correction", x.correction(4), 0);
    }

    private static void promise9KeepsCorrections() {
        LevelingNetwork x = Build.triangle();
        x.shareMisclosure(2);
        x.exclude(0);
        CHECK.due("correction of an excluded line", x.correction(0), -3);
        CHECK.due("isInForest", x.isInForest(2), true);
        CHECK.due("correction in another forest", x.correction(2), -5);
        x.include(0);
        CHECK.due("correction of an included line", x.correction(0), -3);
    }

    private static void promise10ResetCorrections() {
        LevelingNetwork x = Build.triangle();
        x.addLine(2, 3, 1, 1);
        CHECK.due("resetCorrections without any", x.resetCorrections(), 0);
        x.shareMisclosure(2);
        CHECK.due("resetCorrections", x.resetCorrections(), 3);
        CHECK.due("correction", x.correction(0), 0);
        CHECK.due("correction", x.correction(2), 0);
        CHECK.due("misclosure", x.misclosure(2), 10);
        CHECK.due("resetCorrections again", x.resetCorrections(), 0);
    }

    private static void promise11AddProfile() {
        LevelingNetwork x = Build.benchmarks(2);
        CHECK.dueThrow("addProfile beyond", INDEX, () -> x.addProfile(2));
        CHECK.dueThrow("addProfile below", INDEX, () -> x.addProfile(-1));
        CHECK.due("addProfile", x.addProfile(1), 0);
        CHECK.due("addProfile", x.addProfile(1), 1);
        CHECK.due("addProfile", x.addProfile(0), 2);
        CHECK.due("stationCount", x.stationCount(2), 0);
        CHECK.due("addProfile", x.addProfile(0), 3);
        CHECK.dueThrow("the 5th addProfile", STATE, () -> x.addProfile(0));
        CHECK.dueThrow("the 5th addProfile, beyond", INDEX, () -> x.addProfile(2));
        CHECK.due("profileCount", x.profileCount(), 4);
    }

    private static void promise12AddStation() {
        LevelingNetwork x = Build.benchmarks(1);
        x.addProfile(0);
        x.addProfile(0);
        CHECK.dueThrow("profile beyond", INDEX, () -> x.addStation(2, 0, 0));
        CHECK.dueThrow("profile below", INDEX, () -> x.addStation(-1, 0, 0));
        CHECK.dueThrow("profile beyond, offset too great", INDEX, () -> x.addStation(2, 0, 1000));
        CHECK.dueThrow("distance -1", ARGUMENT, () -> x.addStation(0, -1, 0));
        CHECK.dueThrow("distance 100", ARGUMENT, () -> x.addStation(0, 100, 0));
        CHECK.dueThrow("offset 1000", ARGUMENT, () -> x.addStation(0, 0, 1000));
        CHECK.dueThrow("offset -1000", ARGUMENT, () -> x.addStation(0, 0, -1000));
        CHECK.due("addStation", x.addStation(0, 0, 999), 1);
        CHECK.dueThrow("same distance", STATE, () -> x.addStation(0, 0, 999));
        CHECK.dueThrow("same distance, offset too great", ARGUMENT, () -> x.addStation(0, 0, 1000));
        for (int i = 2; i <= 9; i++) {
            CHECK.due("addStation", x.addStation(0, 2 * i, -999), i);
        }
        CHECK.dueThrow("smaller distance", STATE, () -> x.addStation(0, 17, 0));
        CHECK.due("addStation", x.addStation(0, 98, 0), 10);
        CHECK.dueThrow("the 11th station", STATE, () -> x.addStation(0, 99, 0));
        CHECK.due("other profile", x.addStation(1, 99, 0), 1);
        CHECK.due("stationCount", x.stationCount(0), 10);
    }

    private static void promise13SetWaterLevel() {
        LevelingNetwork x = new LevelingNetwork();
        CHECK.due("setWaterLevel", x.setWaterLevel(99999), 0);
        CHECK.due("setWaterLevel", x.setWaterLevel(-99999), 99999);
        CHECK.dueThrow("too high", ARGUMENT, () -> x.setWaterLevel(100000));
        CHECK.dueThrow("too low", ARGUMENT, () -> x.setWaterLevel(-100000));
        CHECK.due("waterLevel", x.waterLevel(), -99999);
    }
}
