import java.util.NoSuchElementException;

/** Promises 33 to 43: forest and loops. */
final class LoopsTest {
    private static final Check CHECK = new Check("LoopsTest");
    private static final Class<IndexOutOfBoundsException> INDEX = IndexOutOfBoundsException.class;
    private static final Class<NoSuchElementException> ELEMENT = NoSuchElementException.class;

    private LoopsTest() {
    }

    public static void main(String[] args) {
        promise33IsInForest();
        promise33EqualLengths();
        promise33To43AfterChanges();
        promise34And35ForestLength();
        promise36TreeCount();
        promise37And38Loops();
        promise39And40LoopSizeAndLength();
        promise41And42Misclosure();
        promise43Part();
        promise43EqualRemainders();
        promise43OfTwoLoops();
        promise43WithoutTolerance();
        CHECK.end();
    }

    /** Two squares that share the line 6, and a benchmark on its own. */
    private static LevelingNetwork squares() {
        LevelingNetwork x = Build.benchmarks(7);
        x.addLine(0, 1, 10, 8);
        x.addLine(1, 2, 20, 2);
        x.addLine(3, 2, -30, 3);
        x.addLine(3, 0, 61, 4);
        x.addLine(2, 4, 7, 5);
        x.addLine(5, 4, 3, 1);
        x.addLine(2, 5, 5, 5);
        return x;
    }

    private static void promise33IsInForest() {
        LevelingNetwork x = squares();
        boolean[] want = {false, true, true, true, true, true, false};
        for (int i = 0; i < want.length; i++) {
            CHECK.due("isInForest " + i, x.isInForest(i), want[i]);
        }
        x.exclude(3);
        CHECK.due("isInForest of an excluded one", x.isInForest(3), false);
        CHECK.due("isInForest instead", x.isInForest(0), true);
        x.addBackwardRun(5, 9999);
        CHECK.due("isInForest of an intolerable one", x.isInForest(5), false);
        CHECK.dueThrow("isInForest beyond", INDEX, () -> x.isInForest(7));
        CHECK.dueThrow("isInForest below", INDEX, () -> x.isInForest(-1));
    }

    /** Every answer has to come from the lines as they are, also if nothing else was asked in between. */
    private static void promise33To43AfterChanges() {
        LevelingNetwork x = Build.triangle();
        CHECK.due("isInForest", x.isInForest(0), true);
        x.exclude(0);
        CHECK.due("isInForest of an excluded line 0", x.isInForest(0), false);
        x.include(0);
        CHECK.due("loopAt", x.loopAt(0), 2);
        x.exclude(1);
        CHECK.due("forestLengthByGrowing", x.forestLengthByGrowing(), 14);
        x.include(1);
        CHECK.due("forestLength", x.forestLength(), 8);
        x.exclude(0);
        CHECK.due("treeCount", x.treeCount(), 2);
        x.exclude(1);
        CHECK.due("treeCount", x.treeCount(), 3);
        x.include(0);
        x.include(1);
        CHECK.due("loopCount", x.loopCount(), 1);
    }

    private static void promise33EqualLengths() {
        LevelingNetwork x = Build.benchmarks(3);
        x.addLine(0, 1, 1, 7);
        x.addLine(1, 2, 1, 7);
        x.addLine(0, 2, 1, 7);
        x.addLine(0, 1, 1, 6);
        CHECK.due("isInForest", x.isInForest(0), false);
        CHECK.due("isInForest", x.isInForest(1), true);
        CHECK.due("isInForest", x.isInForest(2), false);
        CHECK.due("isInForest", x.isInForest(3), true);
    }

    private static void promise34And35ForestLength() {
        LevelingNetwork x = squares();
        dueForestLength(x, 15);
        x.exclude(1);
        dueForestLength(x, 21);
        x.exclude(4);
        x.exclude(6);
        dueForestLength(x, 16);
        dueForestLength(Build.benchmarks(3), 0);
    }

    private static void dueForestLength(LevelingNetwork x, int want) {
        CHECK.due("forestLength", x.forestLength(), want);
        CHECK.due("forestLengthByGrowing", x.forestLengthByGrowing(), want);
    }

    private static void promise36TreeCount() {
        LevelingNetwork x = squares();
        CHECK.due("treeCount", x.treeCount(), 2);
        x.exclude(4);
        CHECK.due("treeCount", x.treeCount(), 2);
        x.exclude(6);
        CHECK.due("treeCount", x.treeCount(), 3);
        CHECK.due("treeCount without lines", Build.benchmarks(5).treeCount(), 5);
    }

    private static void promise37And38Loops() {
        LevelingNetwork x = squares();
        CHECK.due("loopCount", x.loopCount(), 2);
        CHECK.due("loopAt", x.loopAt(0), 0);
        CHECK.due("loopAt", x.loopAt(1), 6);
        CHECK.dueThrow("loopAt beyond", ELEMENT, () -> x.loopAt(2));
        CHECK.dueThrow("loopAt below", ELEMENT, () -> x.loopAt(-1));
        x.exclude(0);
        CHECK.due("loopCount", x.loopCount(), 1);
        CHECK.due("loopAt", x.loopAt(0), 6);
    }

    private static void promise39And40LoopSizeAndLength() {
        LevelingNetwork x = squares();
        CHECK.due("loopSize", x.loopSize(0), 4);
        CHECK.due("loopLength", x.loopLength(0), 17);
        CHECK.due("loopSize", x.loopSize(6), 3);
        CHECK.due("loopLength", x.loopLength(6), 11);
        x.addLine(4, 5, 0, 50);
        CHECK.due("loopSize of two lines", x.loopSize(7), 2);
        CHECK.due("loopLength of two lines", x.loopLength(7), 51);
        x.exclude(7);
        CHECK.dueThrow("loopSize of a forest line", ELEMENT, () -> x.loopSize(1));
        CHECK.dueThrow("loopSize of an unusable line", ELEMENT, () -> x.loopSize(7));
        CHECK.dueThrow("loopSize beyond", INDEX, () -> x.loopSize(8));
        CHECK.dueThrow("loopSize below", INDEX, () -> x.loopSize(-1));
        CHECK.dueThrow("loopLength of a forest line", ELEMENT, () -> x.loopLength(1));
        CHECK.dueThrow("loopLength of an unusable line", ELEMENT, () -> x.loopLength(7));
        CHECK.dueThrow("loopLength beyond", INDEX, () -> x.loopLength(8));
        CHECK.dueThrow("loopLength below", INDEX, () -> x.loopLength(-1));
    }

    private static void promise41And42Misclosure() {
        LevelingNetwork x = squares();
        // 0 to 1 to 2 to 3 to 0: 10 + 20 + 30 + 61; 2 to 5 to 4 to 2: 5 + 3 - 7
        dueMisclosure(x, 0, 121);
        dueMisclosure(x, 6, 1);
        x.shareMisclosure(6);
        dueMisclosure(x, 6, 0);
        x.exclude(4);
        CHECK.dueThrow("misclosure of a forest line", ELEMENT, () -> x.misclosure(6));
        CHECK.dueThrow("misclosureByLevels of a forest line", ELEMENT, () -> x.misclosureByLevels(6));
        CHECK.dueThrow("misclosure of an unusable line", ELEMENT, () -> x.misclosure(4));
        CHECK.dueThrow("misclosureByLevels of an unusable line", ELEMENT, () -> x.misclosureByLevels(4));
        CHECK.dueThrow("misclosure beyond", INDEX, () -> x.misclosure(7));
        CHECK.dueThrow("misclosure below", INDEX, () -> x.misclosure(-1));
        CHECK.dueThrow("misclosureByLevels beyond", INDEX, () -> x.misclosureByLevels(7));
        CHECK.dueThrow("misclosureByLevels below", INDEX, () -> x.misclosureByLevels(-1));
    }

    private static void dueMisclosure(LevelingNetwork x, int line, int want) {
        CHECK.due("misclosure", x.misclosure(line), want);
        CHECK.due("misclosureByLevels", x.misclosureByLevels(line), want);
    }

    private static void promise43Part() {
        LevelingNetwork x = Build.triangle();
        x.addLine(2, 3, 0, 1);
        int[] want = {3, 2, 5, 0};
        for (int i = 0; i < want.length; i++) {
            CHECK.due("part " + i, x.part(2, i), want[i]);
        }
        CHECK.due("part changes nothing", x.misclosure(2), 10);
        CHECK.dueThrow("part of a forest line", ELEMENT, () -> x.part(1, 0));
        CHECK.dueThrow("part of a loop beyond", INDEX, () -> x.part(4, 0));
        CHECK.dueThrow("part of a loop below", INDEX, () -> x.part(-1, 0));
        CHECK.dueThrow("part for a line beyond", INDEX, () -> x.part(2, 4));
        CHECK.dueThrow("part for a line below", INDEX, () -> x.part(2, -1));
        CHECK.dueThrow("part of no loop for a line beyond", INDEX, () -> x.part(1, 4));
        x.shareMisclosure(2);
        CHECK.due("part of nothing", x.part(2, 0), 0);
    }

    private static void promise43EqualRemainders() {
        LevelingNetwork x = Build.benchmarks(4);
        x.addLine(3, 2, 0, 3);
        x.addLine(1, 0, 0, 3);
        x.addLine(2, 1, 6, 3);
        x.addLine(0, 3, 0, 3);
        int[] want = {2, 2, 1, 1};
        for (int i = 0; i < want.length; i++) {
            CHECK.due("part " + i, x.part(3, i), want[i]);
        }
    }

    private static void promise43OfTwoLoops() {
        LevelingNetwork x = squares();
        CHECK.due("part of the first loop", x.part(0, 1), 14);
        CHECK.due("part of the other loop", x.part(6, 4), 1);
        CHECK.due("part of the other loop", x.part(6, 1), 0);
        CHECK.due("part of the other loop", x.part(6, 0), 0);
        CHECK.due("part of the first loop", x.part(0, 6), 0);
        CHECK.due("part of the first loop", x.part(0, 0), 57);
    }

    private static void promise43WithoutTolerance() {
        LevelingNetwork x = Build.benchmarks(2);
        x.addLine(0, 1, 9999, 49);
        x.addLine(0, 1, -9999, 50);
        // -19998 * 49 / 99 = 9898 exactly
        CHECK.due("part", x.part(1, 0), 9898);
        CHECK.due("part", x.part(1, 1), 10100);
    }
}
