import java.util.NoSuchElementException;

/** Promises 22 to 32: lines. */
final class LinesTest {
    private static final Check CHECK = new Check("LinesTest");
    private static final Class<IndexOutOfBoundsException> INDEX = IndexOutOfBoundsException.class;
    private static final Class<IllegalArgumentException> ARGUMENT = IllegalArgumentException.class;
    private static final Class<NoSuchElementException> ELEMENT = NoSuchElementException.class;

    private LinesTest() {
    }

    public static void main(String[] args) {
        promise22To25Facts();
        promise26LevelledDifference();
        promise27Correction();
        promise28Discrepancy();
        promise29IsExcluded();
        promise30IsUsable();
        promise31Tolerance();
        promise32LineByDiscrepancy();
        CHECK.end();
    }

    private static void promise22To25Facts() {
        CHECK.due("lineCount", Build.benchmarks(2).lineCount(), 0);
        LevelingNetwork x = Build.triangle();
        CHECK.due("lineCount", x.lineCount(), 3);
        CHECK.due("firstOf", x.firstOf(2), 2);
        CHECK.due("secondOf", x.secondOf(2), 0);
        CHECK.due("lengthOf", x.lengthOf(2), 9);
        CHECK.due("firstOf", x.firstOf(1), 1);
        CHECK.due("secondOf", x.secondOf(1), 2);
        CHECK.due("lengthOf", x.lengthOf(0), 5);
        CHECK.dueThrow("firstOf beyond", INDEX, () -> x.firstOf(3));
        CHECK.dueThrow("firstOf below", INDEX, () -> x.firstOf(-1));
        CHECK.dueThrow("secondOf beyond", INDEX, () -> x.secondOf(3));
        CHECK.dueThrow("secondOf below", INDEX, () -> x.secondOf(-1));
        CHECK.dueThrow("lengthOf beyond", INDEX, () -> x.lengthOf(3));
        CHECK.dueThrow("lengthOf below", INDEX, () -> x.lengthOf(-1));
        CHECK.dueThrow("lengthOf far beyond", INDEX, () -> x.lengthOf(Integer.MAX_VALUE));
    }

    private static void promise26LevelledDifference() {
        LevelingNetwork x = Build.triangle();
        CHECK.due("levelledDifference of one run", x.levelledDifference(2), -140);
        x.addBackwardRun(0, -103);
        x.addBackwardRun(1, -49);
        x.addBackwardRun(2, 143);
        CHECK.due("levelledDifference rounds down", x.levelledDifference(0), 101);
        CHECK.due("levelledDifference rounds down", x.levelledDifference(1), 49);
        CHECK.due("levelledDifference rounds down", x.levelledDifference(2), -142);
        x.addLine(0, 3, 5, 3);
        x.addBackwardRun(3, 0);
        CHECK.due("levelledDifference with 0", x.levelledDifference(3), 2);
        CHECK.dueThrow("levelledDifference beyond", INDEX, () -> x.levelledDifference(4));
        CHECK.dueThrow("levelledDifference below", INDEX, () -> x.levelledDifference(-1));
    }

    private static void promise27Correction() {
        LevelingNetwork x = Build.triangle();
        x.shareMisclosure(2);
        CHECK.due("correction", x.correction(0), -3);
        CHECK.due("levelledDifference is without it", x.levelledDifference(0), 100);
        CHECK.dueThrow("correction beyond", INDEX, () -> x.correction(3));
        CHECK.dueThrow("correction below", INDEX, () -> x.correction(-1));
    }

    private static void promise28Discrepancy() {
        LevelingNetwork x = Build.triangle();
        x.addBackwardRun(0, -103);
        CHECK.due("discrepancy", x.discrepancy(0), -3);
        x.addBackwardRun(1, 0);
        CHECK.due("discrepancy with 0", x.discrepancy(1), 50);
        CHECK.dueThrow("discrepancy of one run", ELEMENT, () -> x.discrepancy(2));
        CHECK.dueThrow("discrepancy beyond", INDEX, () -> x.discrepancy(3));
        CHECK.dueThrow("discrepancy below", INDEX, () -> x.discrepancy(-1));
    }

    private static void promise29IsExcluded() {
        LevelingNetwork x = Build.triangle();
        x.addBackwardRun(0, 9999);
        CHECK.due("isExcluded of an unusable one", x.isExcluded(0), false);
        x.exclude(1);
        CHECK.due("isExcluded", x.isExcluded(1), true);
        CHECK.dueThrow("isExcluded beyond", INDEX, () -> x.isExcluded(3));
        CHECK.dueThrow("isExcluded below", INDEX, () -> x.isExcluded(-1));
    }

    /** The tolerance is 3 for length 1 and 21 for length 50. */
    private static void promise30IsUsable() {
        LevelingNetwork x = Build.benchmarks(2);
        int[] lengths = {1, 1, 1, 1, 50, 50};
        int[] backward = {3, -3, 4, -4, 21, -22};
        boolean[] want = {true, true, false, false, true, false};
        for (int i = 0; i < want.length; i++) {
            x.addLine(0, 1, 0, lengths[i]);
            CHECK.due("isUsable with one run", x.isUsable(i), true);
            x.addBackwardRun(i, backward[i]);
            CHECK.due("isUsable " + i, x.isUsable(i), want[i]);
        }
        x.exclude(0);
        CHECK.due("isUsable of an excluded one", x.isUsable(0), false);
        CHECK.dueThrow("isUsable beyond", INDEX, () -> x.isUsable(6));
        CHECK.dueThrow("isUsable below", INDEX, () -> x.isUsable(-1));
    }

    private static void promise31Tolerance() {
        LevelingNetwork x = new LevelingNetwork();
        int[] lengths = {0, 1, 2, 3, 4, 5, 7, 9, 16, 50, 100, 783, 784, 799, 800};
        int[] want = {0, 3, 4, 5, 6, 6, 7, 9, 12, 21, 30, 83, 84, 84, 84};
        for (int i = 0; i < want.length; i++) {
            CHECK.due("tolerance(" + lengths[i] + ")", x.tolerance(lengths[i]), want[i]);
        }
        CHECK.dueThrow("tolerance(-1)", ARGUMENT, () -> x.tolerance(-1));
        CHECK.dueThrow("tolerance(801)", ARGUMENT, () -> x.tolerance(801));
        CHECK.dueThrow("tolerance of the least int", ARGUMENT, () -> x.tolerance(Integer.MIN_VALUE));
    }

    private static void promise32LineByDiscrepancy() {
        LevelingNetwork x = Build.benchmarks(2);
        CHECK.dueThrow("rank without lines", ELEMENT, () -> x.lineByDiscrepancy(0));
        for (int i = 0; i < 6; i++) {
            x.addLine(0, 1, 0, 1);
        }
        x.addBackwardRun(0, 2);
        x.addBackwardRun(1, -5);
        x.addBackwardRun(3, -2);
        x.addBackwardRun(4, 5);
        x.addBackwardRun(5, 0);
        x.exclude(4);
        int[] want = {1, 4, 0, 3, 5};
        for (int i = 0; i < want.length; i++) {
            CHECK.due("lineByDiscrepancy " + i, x.lineByDiscrepancy(i), want[i]);
        }
        CHECK.dueThrow("rank beyond", ELEMENT, () -> x.lineByDiscrepancy(5));
        CHECK.dueThrow("rank below", ELEMENT, () -> x.lineByDiscrepancy(-1));
    }
}
