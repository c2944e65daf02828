import java.util.Arrays;
import java.util.NoSuchElementException;
import java.util.function.Consumer;

/** Promises 1 to 13 at their edges: the last value that is allowed, the first one that is not, empty and full. */
public final class ChangesEdgesTest {
    private static final Check CHECK = new Check("ChangesEdgesTest");
    private static final Class<IndexOutOfBoundsException> INDEX = IndexOutOfBoundsException.class;
    private static final Class<IllegalArgumentException> ARGUMENT = IllegalArgumentException.class;
    private static final Class<IllegalStateException> STATE = IllegalStateException.class;
    private static final Class<NoSuchElementException> ELEMENT = NoSuchElementException.class;
    private static final Class<ArithmeticException> ARITHMETIC = ArithmeticException.class;
    private static final Class<UnsupportedOperationException> UNSUPPORTED = UnsupportedOperationException.class;

    private ChangesEdgesTest() {
    }

    public static void main(String[] args) {
        promise1NothingThere();
        promise1EmptyAnswers();
        promise2LastBenchmark();
        promise2AgainAfterUndo();
        promise3Heights();
        promise3RefusedHeights();
        promise3NumberOfFixed();
        promise4Release();
        promise5Limits();
        promise5Refused();
        promise5LastLine();
        promise6Limits();
        promise6Refused();
        promise7And8NumberOfUsable();
        promise7And8Refused();
        promise9LeastAndGreatestLoop();
        promise9EveryTolerance();
        promise9FewMillimetres();
        promise9AddsUp();
        promise9LongLoopBeforeShortOne();
        promise9Refused();
        promise10ResetCorrections();
        promise11LastProfile();
        promise12Limits();
        promise12Refused();
        promise12LastStation();
        promise13Limits();
        CHECK.end();
    }

    private static void refuses(Scene scene, String call, Class<? extends RuntimeException> want,
            Consumer<LevelingNetwork> action) {
        scene.refuses(CHECK, call, want, action);
    }

    /** The values next to a range that lies about 0, and the farthest ones. */
    private static int[] beyond(int greatest) {
        return new int[] {-greatest - 1, greatest + 1, Integer.MIN_VALUE, Integer.MAX_VALUE};
    }

    private static void promise1NothingThere() {
        Scene empty = Scene.EMPTY;
        for (int rank : Scene.outside(0)) {
            refuses(empty, "promise 21: benchmarkByHeight(" + rank + ")", ELEMENT, x -> x.benchmarkByHeight(rank));
            refuses(empty, "promise 32: lineByDiscrepancy(" + rank + ")", ELEMENT, x -> x.lineByDiscrepancy(rank));
            refuses(empty, "promise 38: loopAt(" + rank + ")", ELEMENT, x -> x.loopAt(rank));
            refuses(empty, "promise 57: outputAt(" + rank + ")", INDEX, x -> x.outputAt(rank));
        }
        refuses(empty, "promise 52: meanLength()", ARITHMETIC, LevelingNetwork::meanLength);
        refuses(empty, "promise 53: usableShare()", ARITHMETIC, LevelingNetwork::usableShare);
        refuses(empty, "promise 60: errorPosition()", ELEMENT, LevelingNetwork::errorPosition);
        refuses(empty, "promise 61: failedCommand()", ELEMENT, LevelingNetwork::failedCommand);
        refuses(empty, "promise 62: undo()", ELEMENT, LevelingNetwork::undo);
        refuses(empty, "promise 64: restore()", STATE, LevelingNetwork::restore);
    }

    private static void promise1EmptyAnswers() {
        LevelingNetwork x = new LevelingNetwork();
        CHECK.due("promise 1: benchmarkCount()", x.benchmarkCount(), 0);
        CHECK.due("promise 1: lineCount()", x.lineCount(), 0);
        CHECK.due("promise 1: profileCount()", x.profileCount(), 0);
        CHECK.due("promise 1: waterLevel()", x.waterLevel(), 0);
        CHECK.due("promise 1: forestLength()", x.forestLength(), 0);
        CHECK.due("promise 1: forestLengthByGrowing()", x.forestLengthByGrowing(), 0);
        CHECK.due("promise 1: treeCount()", x.treeCount(), 0);
        CHECK.due("promise 1: loopCount()", x.loopCount(), 0);
        CHECK.due("promise 1: isConsistent()", x.isConsistent(), true);
        CHECK.due("promise 10: resetCorrections() of no lines", x.resetCorrections(), 0);
        CHECK.due("promise 63: save() of nothing", x.save(), 0);
        CHECK.due("promise 64: restore() of nothing", x.restore(), 0);
        CHECK.due("promise 58: type() into an empty buffer", x.type('p'), 1);
    }

    private static void promise2LastBenchmark() {
        CHECK.due("promise 2: the 1st benchmark", new LevelingNetwork().addBenchmark(), 0);
        LevelingNetwork x = Build.benchmarks(9);
        CHECK.due("promise 2: the 10th benchmark", x.addBenchmark(), 9);
        CHECK.due("promise 2: the 10th benchmark is free", x.isFixed(9), false);
        CHECK.due("promise 14: benchmarkCount()", x.benchmarkCount(), 10);
        refuses(Scene.FULL, "promise 2: the 11th addBenchmark()", STATE, LevelingNetwork::addBenchmark);
    }

    private static void promise2AgainAfterUndo() {
        LevelingNetwork x = Build.benchmarks(10);
        x.fix(9, 77);
        x.undo();
        x.undo();
        CHECK.due("promise 2: the 10th benchmark again", x.addBenchmark(), 9);
        CHECK.due("promise 2: it is free", x.isFixed(9), false);
        CHECK.due("promise 2: it has no height", x.hasHeight(9), false);
        CHECK.due("promise 3: it is the first fixed one", x.fix(9, 0), 1);
    }

    private static void promise3Heights() {
        for (int height : new int[] {-99999, -99998, -1, 0, 1, 99998, 99999}) {
            LevelingNetwork x = Build.benchmarks(10);
            for (int benchmark : new int[] {0, 9}) {
                x.fix(benchmark, height);
                CHECK.due("promise 3: fixed at " + height, x.isFixed(benchmark), true);
                CHECK.due("promise 3: height " + height, x.height(benchmark), height);
                CHECK.due("promise 3: heightByRounds " + height, x.heightByRounds(benchmark), height);
            }
        }
    }

    private static void promise3RefusedHeights() {
        for (int height : beyond(99999)) {
            refuses(Scene.PARTLY, "promise 3: fix(0, " + height + ")", ARGUMENT, x -> x.fix(0, height));
            refuses(Scene.PARTLY, "promise 3: fix(2, " + height + ") of a fixed one", ARGUMENT, x -> x.fix(2, height));
            refuses(Scene.FULL, "promise 3: fix(9, " + height + ")", ARGUMENT, x -> x.fix(9, height));
        }
    }

    private static void promise3NumberOfFixed() {
        LevelingNetwork x = Build.benchmarks(10);
        for (int i = 9; i >= 0; i--) {
            CHECK.due("promise 3: fix(" + i + ", 0)", x.fix(i, 0), 10 - i);
            CHECK.due("promise 3: fix(" + i + ", 1) again", x.fix(i, 1), 10 - i);
        }
        x.release(5);
        CHECK.due("promise 3: after a release", x.fix(0, 1), 9);
    }

    private static void promise4Release() {
        for (int height : new int[] {-99999, -1, 0, 1, 99999}) {
            LevelingNetwork x = Build.benchmarks(2);
            x.fix(1, height);
            CHECK.due("promise 4: release(1)", x.release(1), height);
            CHECK.due("promise 4: it is free", x.isFixed(1), false);
            CHECK.due("promise 4: it has no height", x.hasHeight(1), false);
            CHECK.dueThrow("promise 4: release(1) again", STATE, () -> x.release(1));
        }
        refuses(Scene.PARTLY, "promise 4: release(0) of a free one", STATE, x -> x.release(0));
        refuses(Scene.PARTLY, "promise 4: release(3) of a free one alone", STATE, x -> x.release(3));
        refuses(Scene.FULL, "promise 4: release(2) of a free one", STATE, x -> x.release(2));
    }

    private static void promise5Limits() {
        for (int forward : new int[] {-9999, -9998, -1, 0, 1, 9998, 9999}) {
            LevelingNetwork x = Build.benchmarks(10);
            CHECK.due("promise 5: addLine with the run " + forward, x.addLine(9, 0, forward, 1), 0);
            CHECK.due("promise 5: its run", x.levelledDifference(0), forward);
            CHECK.due("promise 5: its first benchmark", x.firstOf(0), 9);
            CHECK.due("promise 5: its second benchmark", x.secondOf(0), 0);
            CHECK.due("promise 5: its correction", x.correction(0), 0);
            CHECK.due("promise 5: it is usable", x.isUsable(0), true);
        }
        for (int length : new int[] {1, 2, 49, 50}) {
            LevelingNetwork x = Build.benchmarks(2);
            CHECK.due("promise 5: addLine with the length " + length, x.addLine(0, 1, 0, length), 0);
            CHECK.due("promise 5: its length", x.lengthOf(0), length);
        }
    }

    private static void promise5Refused() {
        Scene two = new Scene("of two benchmarks", () -> Build.benchmarks(2));
        Scene one = new Scene("of one benchmark", () -> Build.benchmarks(1));
        for (int run : beyond(9999)) {
            refuses(two, "promise 5: addLine(0, 1, " + run + ", 1)", ARGUMENT, x -> x.addLine(0, 1, run, 1));
        }
        for (int length : new int[] {0, 51, -1, Integer.MIN_VALUE, Integer.MAX_VALUE}) {
            refuses(two, "promise 5: addLine(0, 1, 0, " + length + ")", ARGUMENT, x -> x.addLine(0, 1, 0, length));
        }
        refuses(two, "promise 5: addLine(0, 0, 0, 1)", ARGUMENT, x -> x.addLine(0, 0, 0, 1));
        refuses(two, "promise 5: addLine(1, 1, 0, 1)", ARGUMENT, x -> x.addLine(1, 1, 0, 1));
        refuses(one, "promise 5: addLine(0, 0, 0, 1)", ARGUMENT, x -> x.addLine(0, 0, 0, 1));
        refuses(one, "promise 5: addLine(0, 1, 0, 1)", INDEX, x -> x.addLine(0, 1, 0, 1));
        refuses(one, "promise 5: addLine(1, 0, 0, 1)", INDEX, x -> x.addLine(1, 0, 0, 1));
    }

    private static void promise5LastLine() {
        LevelingNetwork x = Build.benchmarks(2);
        for (int i = 0; i < 16; i++) {
            CHECK.due("promise 5: line " + i, x.addLine(i % 2, 1 - i % 2, i, 1 + i), i);
        }
        CHECK.due("promise 22: lineCount()", x.lineCount(), 16);
        for (int i = 0; i < 16; i++) {
            CHECK.due("promise 5: firstOf(" + i + ")", x.firstOf(i), i % 2);
            CHECK.due("promise 5: secondOf(" + i + ")", x.secondOf(i), 1 - i % 2);
            CHECK.due("promise 5: lengthOf(" + i + ")", x.lengthOf(i), 1 + i);
        }
        Scene full = Scene.FULL;
        refuses(full, "promise 5: the 17th line", STATE, y -> y.addLine(0, 1, 0, 1));
        refuses(full, "promise 5: the 17th line, of no length", ARGUMENT, y -> y.addLine(0, 1, 0, 0));
        refuses(full, "promise 5: the 17th line, too long", ARGUMENT, y -> y.addLine(0, 1, 0, 51));
        refuses(full, "promise 5: the 17th line, too high", ARGUMENT, y -> y.addLine(0, 1, 10000, 1));
        refuses(full, "promise 5: the 17th line, too low", ARGUMENT, y -> y.addLine(0, 1, -10000, 1));
        refuses(full, "promise 5: the 17th line, back to itself", ARGUMENT, y -> y.addLine(9, 9, 0, 1));
    }

    private static void promise6Limits() {
        int[][] rows = {{9999, 9999, 19998, 0}, {-9999, -9999, -19998, 0}, {9999, -9999, 0, 9999},
            {-9999, 9999, 0, -9999}, {0, 0, 0, 0}, {0, -1, -1, 0}, {0, 1, 1, -1}, {-9998, 9999, 1, -9999},
            {9998, -9999, -1, 9998}};
        for (int[] row : rows) {
            LevelingNetwork x = Build.benchmarks(2);
            x.addLine(0, 1, row[0], 1);
            String told = "promise 6: the runs " + row[0] + " and " + row[1];
            CHECK.due(told, x.addBackwardRun(0, row[1]), row[2]);
            CHECK.due(told + ", discrepancy", x.discrepancy(0), row[2]);
            CHECK.due(told + ", levelled difference", x.levelledDifference(0), row[3]);
            CHECK.dueThrow(told + ", another backward run", STATE, () -> x.addBackwardRun(0, 0));
        }
        LevelingNetwork full = Scene.FULL.make();
        CHECK.due("promise 6: the last line", full.addBackwardRun(15, 0), 20);
        full.exclude(9);
        CHECK.due("promise 6: an excluded line", full.addBackwardRun(9, 60), 0);
    }

    private static void promise6Refused() {
        for (int run : beyond(9999)) {
            refuses(Scene.PARTLY, "promise 6: addBackwardRun(0, " + run + ")", ARGUMENT, x -> x.addBackwardRun(0, run));
            refuses(Scene.PARTLY, "promise 6: a second run of " + run, ARGUMENT, x -> x.addBackwardRun(4, run));
        }
        refuses(Scene.PARTLY, "promise 6: a second run of the same height", STATE, x -> x.addBackwardRun(4, 160));
        refuses(Scene.FULL, "promise 6: a second run of an excluded line", STATE, x -> x.addBackwardRun(10, -34));
        refuses(Scene.FULL, "promise 6: a second run of 0", STATE, x -> x.addBackwardRun(0, 0));
    }

    private static void promise7And8NumberOfUsable() {
        LevelingNetwork x = Build.benchmarks(2);
        for (int i = 0; i < 16; i++) {
            x.addLine(0, 1, 0, 1);
        }
        for (int i = 15; i >= 0; i--) {
            CHECK.due("promise 7: exclude(" + i + ")", x.exclude(i), i);
            CHECK.due("promise 7: isExcluded(" + i + ")", x.isExcluded(i), true);
            CHECK.due("promise 7: isUsable(" + i + ")", x.isUsable(i), false);
        }
        x.addBackwardRun(3, 4);
        CHECK.due("promise 8: include(3), whose runs differ too much", x.include(3), 0);
        CHECK.due("promise 8: isUsable(3)", x.isUsable(3), false);
        CHECK.due("promise 8: include(0)", x.include(0), 1);
        CHECK.due("promise 8: include(15)", x.include(15), 2);
        CHECK.due("promise 8: isUsable(15)", x.isUsable(15), true);
        CHECK.due("promise 7: exclude(3), whose runs differ too much", x.exclude(3), 2);
    }

    private static void promise7And8Refused() {
        refuses(Scene.PARTLY, "promise 8: include(0), never excluded", STATE, x -> x.include(0));
        refuses(Scene.PARTLY, "promise 8: include(1), included again", STATE, x -> x.include(1));
        refuses(Scene.PARTLY, "promise 8: include(4), not usable", STATE, x -> x.include(4));
        refuses(Scene.FULL, "promise 7: exclude(10), excluded", STATE, x -> x.exclude(10));
        refuses(Scene.FULL, "promise 8: include(11), not usable", STATE, x -> x.include(11));
        refuses(Scene.FULL, "promise 8: include(15)", STATE, x -> x.include(15));
    }

    /** Lengths 2 and 500: 9 * 2 is at least 4 * 4, 9 * 500 at least 67 * 67. */
    private static void promise9LeastAndGreatestLoop() {
        dueShare(2, 1, 4, new int[] {2, 2});
        dueShare(2, 1, 3, new int[] {2, 1});
        dueShare(10, 50, 67, new int[] {7, 7, 7, 7, 7, 7, 7, 6, 6, 6});
        for (int sign : new int[] {-1, 1}) {
            Scene least = new Scene("a ring of 2 lines", () -> Build.ring(2, 1, 5 * sign));
            refuses(least, "promise 9: shareMisclosure(1)", UNSUPPORTED, x -> x.shareMisclosure(1));
            Scene greatest = new Scene("a ring of 10 lines", () -> Build.ring(10, 50, 68 * sign));
            refuses(greatest, "promise 9: shareMisclosure(9)", UNSUPPORTED, x -> x.shareMisclosure(9));
        }
    }

    private static void dueShare(int lines, int length, int amount, int[] parts) {
        for (int sign : new int[] {-1, 1}) {
            LevelingNetwork x = Build.ring(lines, length, sign * amount);
            String told = "promise 9: " + sign * amount + " among " + lines + " lines";
            CHECK.due(told, x.shareMisclosure(lines - 1), sign * amount);
            for (int i = 0; i < lines; i++) {
                CHECK.due(told + ", correction " + i, x.correction(i), -sign * parts[i]);
            }
            CHECK.due(told + ", misclosure", x.misclosure(lines - 1), 0);
            CHECK.due(told + ", misclosureByLevels", x.misclosureByLevels(lines - 1), 0);
        }
    }

    /** Loops of two lines with the same length, so that the loop has each even length up to 100. */
    private static void promise9EveryTolerance() {
        for (int length = 1; length <= 50; length++) {
            int greatest = new LevelingNetwork().tolerance(2 * length);
            for (int sign : new int[] {-1, 1}) {
                LevelingNetwork at = Build.ring(2, length, sign * greatest);
                CHECK.due("promise 9: at the tolerance", at.shareMisclosure(1), sign * greatest);
                LevelingNetwork beyond = Build.ring(2, length, sign * (greatest + 1));
                CHECK.dueThrow("promise 9: beyond the tolerance", UNSUPPORTED, () -> beyond.shareMisclosure(1));
                CHECK.due("promise 9: nothing was shared", beyond.misclosure(1), sign * (greatest + 1));
            }
        }
    }

    /** Fewer millimetres than lines go to the lowest indices, and none at all is a change without an effect. */
    private static void promise9FewMillimetres() {
        for (int amount = 0; amount <= 10; amount++) {
            int[] parts = new int[10];
            Arrays.fill(parts, 0, amount, 1);
            dueShare(10, 20, amount, parts);
        }
        LevelingNetwork x = Build.ring(10, 20, 0);
        x.setWaterLevel(3);
        x.shareMisclosure(9);
        x.undo();
        CHECK.due("promise 9: sharing nothing is a change", x.waterLevel(), 3);
    }

    /** Loops that have lines in common: what a line gets is added to what it has, also back to 0. */
    private static void promise9AddsUp() {
        LevelingNetwork x = Build.benchmarks(2);
        x.addLine(0, 1, 0, 1);
        x.addLine(1, 0, 4, 1);
        x.addLine(1, 0, 4, 1);
        x.addLine(1, 0, -1, 1);
        CHECK.due("promise 9: shareMisclosure(1)", x.shareMisclosure(1), 4);
        CHECK.due("promise 9: correction(0)", x.correction(0), -2);
        CHECK.due("promise 9: shareMisclosure(2)", x.shareMisclosure(2), 2);
        CHECK.due("promise 9: correction(0)", x.correction(0), -3);
        CHECK.due("promise 9: correction(2)", x.correction(2), -1);
        CHECK.due("promise 9: shareMisclosure(3)", x.shareMisclosure(3), -4);
        CHECK.due("promise 9: correction(0)", x.correction(0), -1);
        CHECK.due("promise 9: correction(3)", x.correction(3), 2);
        CHECK.due("promise 9: misclosure(3)", x.misclosure(3), 0);
    }

    /** The longer way ends with the line 0, and the shorter one behind it may get nothing of the longer one. */
    private static void promise9LongLoopBeforeShortOne() {
        LevelingNetwork x = Build.benchmarks(4);
        for (int i = 0; i < 3; i++) {
            x.addLine(i, i + 1, 0, 1);
        }
        x.addLine(0, 3, 5, 2);
        x.addLine(2, 0, 4, 2);
        CHECK.due("promise 9: shareMisclosure(3)", x.shareMisclosure(3), 5);
        dueCorrections(x, new int[] {1, 1, 1, -2, 0});
        CHECK.due("promise 9: shareMisclosure(4)", x.shareMisclosure(4), 6);
        dueCorrections(x, new int[] {-1, 0, 1, -2, -3});
    }

    private static void dueCorrections(LevelingNetwork x, int[] want) {
        for (int line = 0; line < want.length; line++) {
            CHECK.due("promise 9: correction(" + line + ")", x.correction(line), want[line]);
        }
    }

    private static void promise9Refused() {
        refuses(Scene.PARTLY, "promise 9: shareMisclosure(0), in the forest", ELEMENT, x -> x.shareMisclosure(0));
        refuses(Scene.PARTLY, "promise 9: shareMisclosure(4), not usable", ELEMENT, x -> x.shareMisclosure(4));
        refuses(Scene.PARTLY, "promise 9: shareMisclosure(3), too great", UNSUPPORTED, x -> x.shareMisclosure(3));
        refuses(Scene.FULL, "promise 9: shareMisclosure(8), in the forest", ELEMENT, x -> x.shareMisclosure(8));
        refuses(Scene.FULL, "promise 9: shareMisclosure(10), excluded", ELEMENT, x -> x.shareMisclosure(10));
        refuses(Scene.FULL, "promise 9: shareMisclosure(11), not usable", ELEMENT, x -> x.shareMisclosure(11));
        refuses(Scene.FULL, "promise 9: shareMisclosure(12), too great", UNSUPPORTED, x -> x.shareMisclosure(12));
    }

    private static void promise10ResetCorrections() {
        LevelingNetwork x = Build.ring(10, 50, 67);
        CHECK.due("promise 10: no correction", x.resetCorrections(), 0);
        x.shareMisclosure(9);
        x.exclude(0);
        CHECK.due("promise 10: all ten, an excluded one too", x.resetCorrections(), 10);
        CHECK.due("promise 10: correction(0)", x.correction(0), 0);
        CHECK.due("promise 10: correction(9)", x.correction(9), 0);
        CHECK.due("promise 10: none again", x.resetCorrections(), 0);
        LevelingNetwork y = Build.ring(10, 20, -1);
        y.shareMisclosure(9);
        CHECK.due("promise 10: one of ten", y.resetCorrections(), 1);
    }

    private static void promise11LastProfile() {
        LevelingNetwork x = Build.benchmarks(10);
        for (int i = 0; i < 4; i++) {
            CHECK.due("promise 11: addProfile(9)", x.addProfile(9), i);
            CHECK.due("promise 11: stationCount(" + i + ")", x.stationCount(i), 0);
        }
        CHECK.due("promise 44: profileCount()", x.profileCount(), 4);
        refuses(Scene.FULL, "promise 11: the 5th profile", STATE, y -> y.addProfile(0));
        refuses(Scene.FULL, "promise 11: the 5th profile, at the last benchmark", STATE, y -> y.addProfile(9));
    }

    private static void promise12Limits() {
        for (int distance : new int[] {0, 1, 98, 99}) {
            for (int offset : new int[] {-999, -998, 0, 998, 999}) {
                LevelingNetwork x = Build.benchmarks(1);
                x.fix(0, 0);
                x.addProfile(0);
                CHECK.due("promise 12: addStation", x.addStation(0, distance, offset), 1);
                CHECK.due("promise 12: its ground", x.ground(0, distance), offset);
            }
        }
        LevelingNetwork x = Scene.PARTLY.make();
        CHECK.due("promise 12: one metre on", x.addStation(0, 28, 0), 3);
        CHECK.due("promise 12: one more", x.addStation(0, 29, 0), 4);
        CHECK.due("promise 12: to the end", x.addStation(0, 99, 0), 5);
        CHECK.dueThrow("promise 12: behind the end", STATE, () -> x.addStation(0, 99, 0));
    }

    private static void promise12Refused() {
        Scene partly = Scene.PARTLY;
        for (int distance : new int[] {-1, 100, Integer.MIN_VALUE, Integer.MAX_VALUE}) {
            refuses(partly, "promise 12: at " + distance, ARGUMENT, x -> x.addStation(0, distance, 0));
            refuses(partly, "promise 12: a first one at " + distance, ARGUMENT, x -> x.addStation(1, distance, 0));
        }
        for (int offset : beyond(999)) {
            refuses(partly, "promise 12: offset " + offset, ARGUMENT, x -> x.addStation(0, 50, offset));
            refuses(partly, "promise 12: same distance, offset " + offset, ARGUMENT, x -> x.addStation(0, 27, offset));
        }
        refuses(partly, "promise 12: at the same distance", STATE, x -> x.addStation(0, 27, 0));
        refuses(partly, "promise 12: at a smaller distance", STATE, x -> x.addStation(0, 26, 0));
        refuses(partly, "promise 12: at the distance of an earlier one", STATE, x -> x.addStation(0, 20, 0));
        refuses(partly, "promise 12: before all", STATE, x -> x.addStation(0, 0, 0));
    }

    private static LevelingNetwork nineStations() {
        LevelingNetwork x = Build.benchmarks(1);
        for (int i = 0; i < 4; i++) {
            x.addProfile(0);
        }
        for (int i = 0; i < 9; i++) {
            x.addStation(3, 2 * i, i);
        }
        return x;
    }

    private static void promise12LastStation() {
        CHECK.due("promise 12: the 10th station", nineStations().addStation(3, 18, 0), 10);
        Scene ten = new Scene("with room behind ten stations", () -> {
            LevelingNetwork x = nineStations();
            x.addStation(3, 18, 0);
            return x;
        });
        refuses(ten, "promise 12: the 11th station", STATE, x -> x.addStation(3, 99, 0));
        CHECK.due("promise 12: another profile has room", ten.make().addStation(2, 0, 0), 1);
        refuses(Scene.FULL, "promise 12: the 11th station", STATE, y -> y.addStation(0, 99, 0));
        refuses(Scene.FULL, "promise 12: the 11th station, too far", ARGUMENT, y -> y.addStation(0, 100, 0));
        refuses(Scene.FULL, "promise 12: the 11th station, too high", ARGUMENT, y -> y.addStation(0, 99, 1000));
        refuses(Scene.FULL, "promise 12: a station behind the last metre", STATE, y -> y.addStation(2, 99, 5));
    }

    private static void promise13Limits() {
        LevelingNetwork x = new LevelingNetwork();
        int previous = 0;
        for (int level : new int[] {-99999, -99998, 0, 99998, 99999, 99999, -1}) {
            CHECK.due("promise 13: setWaterLevel(" + level + ")", x.setWaterLevel(level), previous);
            CHECK.due("promise 46: waterLevel()", x.waterLevel(), level);
            previous = level;
        }
        for (int level : beyond(99999)) {
            refuses(Scene.EMPTY, "promise 13: setWaterLevel(" + level + ")", ARGUMENT, y -> y.setWaterLevel(level));
            refuses(Scene.FULL, "promise 13: setWaterLevel(" + level + ")", ARGUMENT, y -> y.setWaterLevel(level));
        }
    }
}
