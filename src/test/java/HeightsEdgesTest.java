import java.util.NoSuchElementException;

/** Promises 14 to 21 at their edges: no benchmark, one and ten of them, no datum, the longest way, equal heights. */
public final class HeightsEdgesTest {
    private static final Check CHECK = new Check("HeightsEdgesTest");
    private static final Class<NoSuchElementException> ELEMENT = NoSuchElementException.class;

    private HeightsEdgesTest() {
    }

    public static void main(String[] args) {
        promise14And15Counts();
        promise16To20OneBenchmark();
        promise16To20WithoutDatum();
        promise17And18LongestWay();
        promise17And18StarAndShortWay();
        promise17And18BelowZero();
        promise19Signs();
        promise19OneOfEach();
        promise20LowestIndex();
        promise20EndOfTree();
        promise21Ranks();
        promise21EqualHeights();
        CHECK.end();
    }

    /** Benchmarks in a row, each the given millimetres above the one before it. */
    private static LevelingNetwork row(int benchmarks, int rise) {
        LevelingNetwork x = Build.benchmarks(benchmarks);
        for (int i = 1; i < benchmarks; i++) {
            x.addLine(i - 1, i, rise, 50);
        }
        return x;
    }

    private static void dueHeight(String told, LevelingNetwork x, int benchmark, int want) {
        CHECK.due(told + ", hasHeight " + benchmark, x.hasHeight(benchmark), true);
        CHECK.due(told + ", height " + benchmark, x.height(benchmark), want);
        CHECK.due(told + ", heightByRounds " + benchmark, x.heightByRounds(benchmark), want);
    }

    private static void dueNoHeight(Scene scene, int i) {
        CHECK.due("promise 16: hasHeight(" + i + ")", scene.make().hasHeight(i), false);
        scene.refuses(CHECK, "promise 17: height(" + i + ")", ELEMENT, x -> x.height(i));
        scene.refuses(CHECK, "promise 18: heightByRounds(" + i + ")", ELEMENT, x -> x.heightByRounds(i));
        scene.refuses(CHECK, "promise 20: datum(" + i + ")", ELEMENT, x -> x.datum(i));
    }

    private static void promise14And15Counts() {
        for (int count = 0; count <= 10; count++) {
            LevelingNetwork x = Build.benchmarks(count);
            CHECK.due("promise 14: benchmarkCount()", x.benchmarkCount(), count);
            for (int i = 0; i < count; i++) {
                CHECK.due("promise 15: isFixed(" + i + ") at first", x.isFixed(i), false);
            }
        }
        LevelingNetwork x = row(10, 1);
        x.fix(9, 0);
        for (int i = 0; i < 10; i++) {
            CHECK.due("promise 15: isFixed(" + i + ")", x.isFixed(i), i == 9);
        }
    }

    private static void promise16To20OneBenchmark() {
        Scene alone = new Scene("of one free benchmark", () -> Build.benchmarks(1));
        dueNoHeight(alone, 0);
        alone.refuses(CHECK, "promise 19: closingError(0)", ELEMENT, x -> x.closingError(0));
        alone.refuses(CHECK, "promise 21: benchmarkByHeight(0)", ELEMENT, x -> x.benchmarkByHeight(0));
        LevelingNetwork x = Build.benchmarks(1);
        x.fix(0, -99999);
        dueHeight("promise 17: a fixed one alone", x, 0, -99999);
        CHECK.due("promise 19: closingError(0)", x.closingError(0), 0);
        CHECK.due("promise 20: datum(0)", x.datum(0), 0);
        CHECK.due("promise 21: benchmarkByHeight(0)", x.benchmarkByHeight(0), 0);
    }

    private static void promise16To20WithoutDatum() {
        Scene free = new Scene("of ten free benchmarks", () -> row(10, 3));
        for (int benchmark : new int[] {0, 9}) {
            dueNoHeight(free, benchmark);
            free.refuses(CHECK, "promise 19: closingError", ELEMENT, x -> x.closingError(benchmark));
        }
        dueNoHeight(Scene.PARTLY, 3);
        Scene.PARTLY.refuses(CHECK, "promise 19: closingError(0) of a free one", ELEMENT, x -> x.closingError(0));
        Scene.FULL.refuses(CHECK, "promise 19: closingError(2) of a released one", ELEMENT, x -> x.closingError(2));
        Scene cut = new Scene("cut behind the datum", HeightsEdgesTest::cutBehindDatum);
        dueHeight("promise 17: before the cut", cut.make(), 4, 1000);
        dueNoHeight(cut, 5);
    }

    private static LevelingNetwork cutBehindDatum() {
        LevelingNetwork x = row(10, 3);
        x.fix(4, 1000);
        x.exclude(4);
        return x;
    }

    private static void promise17And18LongestWay() {
        for (int rise : new int[] {-9999, 9999}) {
            int start = rise < 0 ? -99999 : 99999;
            LevelingNetwork x = row(10, rise);
            x.fix(0, start);
            for (int i = 0; i < 10; i++) {
                dueHeight("promise 17: up the row", x, i, start + i * rise);
            }
            x.release(0);
            x.fix(9, -start);
            for (int i = 0; i < 10; i++) {
                dueHeight("promise 17: down the row", x, i, -start - (9 - i) * rise);
            }
        }
    }

    /** The datum lies in the middle, and a long line beside the forest counts for nothing. */
    private static void promise17And18StarAndShortWay() {
        LevelingNetwork x = Build.benchmarks(10);
        x.addLine(1, 9, 9999, 50);
        for (int i = 0; i < 9; i++) {
            x.addLine(i % 2 == 0 ? 9 : i, i % 2 == 0 ? i : 9, 10 * i, 1);
        }
        x.fix(9, 5);
        for (int i = 0; i < 9; i++) {
            dueHeight("promise 17: from the middle", x, i, i % 2 == 0 ? 5 + 10 * i : 5 - 10 * i);
        }
        x.release(9);
        x.fix(8, 5);
        dueHeight("promise 17: over the middle", x, 1, 5 - 80 - 10);
    }

    /** The levelled differences are rounded down below 0 before they are added up. */
    private static void promise17And18BelowZero() {
        LevelingNetwork x = row(3, -7);
        x.addBackwardRun(0, 8);
        x.addBackwardRun(1, 6);
        x.fix(0, -1);
        dueHeight("promise 17: -15 / 2 down", x, 1, -9);
        dueHeight("promise 17: -13 / 2 down", x, 2, -16);
        x.release(0);
        x.fix(2, 0);
        dueHeight("promise 17: against the lines", x, 0, 15);
    }

    private static void promise19Signs() {
        for (int error : new int[] {-1, 0, 1}) {
            LevelingNetwork x = row(10, 1);
            x.fix(0, 0);
            x.fix(9, 9 - error);
            CHECK.due("promise 19: closingError(9)", x.closingError(9), error);
            CHECK.due("promise 19: closingError(0) of the datum", x.closingError(0), 0);
        }
        LevelingNetwork x = row(10, 9999);
        x.fix(0, 99999);
        x.fix(9, -99999);
        CHECK.due("promise 19: the greatest", x.closingError(9), 2 * 99999 + 9 * 9999);
        x = row(10, -9999);
        x.fix(0, -99999);
        x.fix(9, 99999);
        CHECK.due("promise 19: the least", x.closingError(9), -2 * 99999 - 9 * 9999);
    }

    /** All are fixed: heights are theirs, and closing errors are carried from the datum past all the others. */
    private static void promise19OneOfEach() {
        LevelingNetwork x = row(10, 100);
        for (int i = 0; i < 10; i++) {
            x.fix(i, 7 * i);
        }
        for (int i = 0; i < 10; i++) {
            CHECK.due("promise 19: closingError(" + i + ")", x.closingError(i), 93 * i);
            dueHeight("promise 17: fixed", x, i, 7 * i);
        }
    }

    private static void promise20LowestIndex() {
        LevelingNetwork x = row(10, 100);
        for (int i = 9; i >= 0; i--) {
            x.fix(i, -i);
            CHECK.due("promise 20: datum(0)", x.datum(0), i);
            CHECK.due("promise 20: datum(9)", x.datum(9), i);
        }
        for (int i = 0; i < 9; i++) {
            x.release(i);
            CHECK.due("promise 20: datum(0) after a release", x.datum(0), i + 1);
        }
        x.release(9);
        CHECK.dueThrow("promise 20: none is fixed any more", ELEMENT, () -> x.datum(0));
    }

    private static void promise20EndOfTree() {
        LevelingNetwork x = row(10, 100);
        x.fix(0, 0);
        x.fix(9, 0);
        CHECK.due("promise 20: one tree", x.datum(9), 0);
        x.exclude(4);
        for (int i = 0; i < 10; i++) {
            CHECK.due("promise 20: two trees, " + i, x.datum(i), i < 5 ? 0 : 9);
        }
        CHECK.due("promise 19: the datum of its own tree", x.closingError(9), 0);
    }

    private static void promise21Ranks() {
        LevelingNetwork x = row(10, 100);
        x.fix(9, 0);
        for (int rank = 0; rank < 10; rank++) {
            CHECK.due("promise 21: rank " + rank, x.benchmarkByHeight(rank), 9 - rank);
        }
        x.exclude(0);
        for (int rank = 0; rank < 9; rank++) {
            CHECK.due("promise 21: rank " + rank + " of nine", x.benchmarkByHeight(rank), 9 - rank);
        }
        CHECK.dueThrow("promise 21: rank 9 of nine", ELEMENT, () -> x.benchmarkByHeight(9));
        for (Scene scene : new Scene[] {Scene.FULL, Scene.PARTLY}) {
            int count = scene == Scene.FULL ? 10 : 3;
            for (int rank : Scene.outside(count)) {
                scene.refuses(CHECK, "promise 21: benchmarkByHeight(" + rank + ")", ELEMENT,
                        y -> y.benchmarkByHeight(rank));
            }
        }
    }

    private static void promise21EqualHeights() {
        LevelingNetwork x = row(10, 0);
        x.fix(5, -3);
        for (int rank = 0; rank < 10; rank++) {
            CHECK.due("promise 21: equal heights, rank " + rank, x.benchmarkByHeight(rank), rank);
        }
        x.fix(9, -2);
        x.fix(0, -4);
        CHECK.due("promise 21: one millimetre above", x.benchmarkByHeight(0), 9);
        CHECK.due("promise 21: the fixed one between", x.benchmarkByHeight(1), 5);
        CHECK.due("promise 21: one millimetre below", x.benchmarkByHeight(2), 0);
        CHECK.due("promise 21: and the last of its height", x.benchmarkByHeight(9), 8);
    }
}
