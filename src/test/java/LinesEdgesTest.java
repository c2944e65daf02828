import java.util.NoSuchElementException;

/** Promises 22 to 32 at their edges: no line and 16, the tolerance of each length, divisions below 0, ranks. */
public final class LinesEdgesTest {
    private static final Check CHECK = new Check("LinesEdgesTest");
    private static final Class<IllegalArgumentException> ARGUMENT = IllegalArgumentException.class;
    private static final Class<NoSuchElementException> ELEMENT = NoSuchElementException.class;

    private LinesEdgesTest() {
    }

    public static void main(String[] args) {
        promise22To25EveryCount();
        promise23And24Directions();
        promise26RoundsDown();
        promise27BothSigns();
        promise28Discrepancy();
        promise29And30Excluded();
        promise30EveryTolerance();
        promise31EveryLength();
        promise31Refused();
        promise32Ranks();
        promise32EqualDiscrepancies();
        CHECK.end();
    }

    private static LevelingNetwork lines(int count) {
        LevelingNetwork x = Build.benchmarks(2);
        for (int i = 0; i < count; i++) {
            x.addLine(0, 1, i, 50 - i);
        }
        return x;
    }

    private static void promise22To25EveryCount() {
        for (int count = 0; count <= 16; count++) {
            LevelingNetwork x = lines(count);
            CHECK.due("promise 22: lineCount()", x.lineCount(), count);
            for (int i = 0; i < count; i++) {
                CHECK.due("promise 25: lengthOf(" + i + ")", x.lengthOf(i), 50 - i);
                CHECK.due("promise 26: levelledDifference(" + i + ")", x.levelledDifference(i), i);
            }
        }
    }

    /** Each pair of benchmarks that the class can hold at its ends, both ways. */
    private static void promise23And24Directions() {
        int[][] pairs = {{0, 9}, {9, 0}, {0, 1}, {1, 0}, {8, 9}, {9, 8}};
        LevelingNetwork x = Build.benchmarks(10);
        for (int i = 0; i < pairs.length; i++) {
            x.addLine(pairs[i][0], pairs[i][1], 0, 1);
            CHECK.due("promise 23: firstOf(" + i + ")", x.firstOf(i), pairs[i][0]);
            CHECK.due("promise 24: secondOf(" + i + ")", x.secondOf(i), pairs[i][1]);
        }
    }

    /** The forward run minus the backward one is from -4 to 4 here, and divided by 2 it is rounded down. */
    private static void promise26RoundsDown() {
        int[] want = {-2, -2, -1, -1, 0, 0, 1, 1, 2};
        for (int i = 0; i < want.length; i++) {
            LevelingNetwork x = Build.benchmarks(2);
            x.addLine(0, 1, 10, 1);
            x.addBackwardRun(0, 10 - (i - 4));
            CHECK.due("promise 26: half of " + (i - 4), x.levelledDifference(0), want[i]);
        }
        LevelingNetwork x = Build.benchmarks(2);
        x.addLine(0, 1, -9999, 1);
        CHECK.due("promise 26: one run only is not halved", x.levelledDifference(0), -9999);
        x.addBackwardRun(0, 9998);
        CHECK.due("promise 26: half of -19997", x.levelledDifference(0), -9999);
        LevelingNetwork y = Build.benchmarks(2);
        y.addLine(0, 1, 9999, 1);
        y.addBackwardRun(0, -9998);
        CHECK.due("promise 26: half of 19997", y.levelledDifference(0), 9998);
    }

    private static void promise27BothSigns() {
        LevelingNetwork x = Build.benchmarks(2);
        x.addLine(0, 1, 0, 1);
        x.addLine(1, 0, 1, 2);
        x.addLine(0, 1, 0, 50);
        x.shareMisclosure(1);
        CHECK.due("promise 27: correction(0), in the loop with 1 / 3", x.correction(0), 0);
        CHECK.due("promise 27: correction(1), with 2 / 3", x.correction(1), -1);
        CHECK.due("promise 27: correction(2), in no loop that was shared", x.correction(2), 0);
        CHECK.due("promise 26: levelledDifference(1) is without it", x.levelledDifference(1), 1);
        x.undo();
        CHECK.due("promise 27: correction(1) after undo", x.correction(1), 0);
    }

    private static void promise28Discrepancy() {
        Scene partly = Scene.PARTLY;
        for (int line = 0; line < 4; line++) {
            int index = line;
            partly.refuses(CHECK, "promise 28: discrepancy(" + line + ")", ELEMENT, x -> x.discrepancy(index));
        }
        CHECK.due("promise 28: discrepancy(4)", partly.make().discrepancy(4), 59);
        LevelingNetwork full = Scene.FULL.make();
        CHECK.due("promise 28: of an excluded line", full.discrepancy(10), 1);
        CHECK.due("promise 28: of a line that is not usable", full.discrepancy(11), -20);
        Scene.FULL.refuses(CHECK, "promise 28: discrepancy(15)", ELEMENT, x -> x.discrepancy(15));
    }

    private static void promise29And30Excluded() {
        LevelingNetwork x = lines(16);
        for (int line : new int[] {0, 15}) {
            CHECK.due("promise 29: isExcluded at first", x.isExcluded(line), false);
            CHECK.due("promise 30: isUsable at first", x.isUsable(line), true);
            x.exclude(line);
            CHECK.due("promise 29: isExcluded", x.isExcluded(line), true);
            CHECK.due("promise 30: isUsable", x.isUsable(line), false);
        }
        CHECK.due("promise 29: isExcluded of the one beside", x.isExcluded(1), false);
        CHECK.due("promise 29: isExcluded of the one before", x.isExcluded(14), false);
        x.addBackwardRun(15, -15);
        CHECK.due("promise 30: excluded, with runs that agree", x.isUsable(15), false);
        x.include(15);
        CHECK.due("promise 30: included again", x.isUsable(15), true);
    }

    /** At the tolerance of its length a line is usable, one millimetre beyond it is not, on both sides. */
    private static void promise30EveryTolerance() {
        for (int length = 1; length <= 50; length++) {
            int tolerance = toleranceByWords(length);
            dueUsable(length, tolerance, true);
            dueUsable(length, -tolerance, true);
            dueUsable(length, tolerance + 1, false);
            dueUsable(length, -tolerance - 1, false);
        }
        dueUsable(1, 0, true);
        dueUsable(50, 9999, false);
        dueUsable(50, -9999, false);
    }

    private static void dueUsable(int length, int discrepancy, boolean want) {
        LevelingNetwork x = Build.benchmarks(2);
        x.addLine(0, 1, 0, length);
        x.addBackwardRun(0, discrepancy);
        String told = "promise 30: length " + length + ", discrepancy " + discrepancy;
        CHECK.due(told, x.isUsable(0), want);
        CHECK.due(told + ", in the forest", x.isInForest(0), want);
    }

    private static int toleranceByWords(int length) {
        int found = 0;
        while ((found + 1) * (found + 1) <= 9 * length) {
            found++;
        }
        return found;
    }

    private static void promise31EveryLength() {
        LevelingNetwork low = new LevelingNetwork();
        LevelingNetwork high = new LevelingNetwork();
        for (int length = 0; length <= 800; length++) {
            LevelingNetwork x = length <= 400 ? low : high;
            CHECK.due("promise 31: tolerance(" + length + ")", x.tolerance(length), toleranceByWords(length));
        }
        CHECK.due("promise 31: tolerance(0)", low.tolerance(0), 0);
        CHECK.due("promise 31: tolerance(800)", low.tolerance(800), 84);
    }

    private static void promise31Refused() {
        for (int length : new int[] {-1, 801, Integer.MIN_VALUE, Integer.MAX_VALUE}) {
            Scene.EMPTY.refuses(CHECK, "promise 31: tolerance(" + length + ")", ARGUMENT, x -> x.tolerance(length));
            Scene.FULL.refuses(CHECK, "promise 31: tolerance(" + length + ")", ARGUMENT, x -> x.tolerance(length));
        }
    }

    private static void promise32Ranks() {
        LevelingNetwork x = lines(16);
        CHECK.dueThrow("promise 32: no backward run", ELEMENT, () -> x.lineByDiscrepancy(0));
        for (int i = 0; i < 16; i++) {
            x.addBackwardRun(i, i % 2 == 0 ? 0 : -2 * i);
        }
        for (int rank = 0; rank < 16; rank++) {
            CHECK.due("promise 32: rank " + rank, x.lineByDiscrepancy(rank), 15 - rank);
        }
        CHECK.dueThrow("promise 32: rank 16", ELEMENT, () -> x.lineByDiscrepancy(16));
        for (int rank : Scene.outside(1)) {
            Scene.PARTLY.refuses(CHECK, "promise 32: lineByDiscrepancy(" + rank + ")", ELEMENT,
                    y -> y.lineByDiscrepancy(rank));
        }
        for (int rank : Scene.outside(3)) {
            Scene.FULL.refuses(CHECK, "promise 32: lineByDiscrepancy(" + rank + ")", ELEMENT,
                    y -> y.lineByDiscrepancy(rank));
        }
    }

    /** Lines count also if they are excluded or not usable; the greatest discrepancies are those of the limits. */
    private static void promise32EqualDiscrepancies() {
        LevelingNetwork x = Build.benchmarks(2);
        int[] forward = {0, 9999, -9999, 1, -1, 0, 9999};
        int[] backward = {0, 9999, -9999, 0, 0, 0, 9998};
        for (int i = 0; i < forward.length; i++) {
            x.addLine(0, 1, forward[i], 1);
            x.addBackwardRun(i, backward[i]);
        }
        x.exclude(3);
        int[] want = {1, 2, 6, 3, 4, 0, 5};
        for (int rank = 0; rank < want.length; rank++) {
            CHECK.due("promise 32: equal ones, rank " + rank, x.lineByDiscrepancy(rank), want[rank]);
        }
    }
}
