import java.util.NoSuchElementException;

/** Promises 14 to 21: benchmarks and heights. */
final class HeightsTest {
    private static final Check CHECK = new Check("HeightsTest");
    private static final Class<IndexOutOfBoundsException> INDEX = IndexOutOfBoundsException.class;
    private static final Class<NoSuchElementException> ELEMENT = NoSuchElementException.class;

    private HeightsTest() {
    }

    public static void main(String[] args) {
        promise14BenchmarkCount();
        promise15IsFixed();
        promise16HasHeight();
        promise17And18Height();
        promise17And18LongWay();
        promise17And18PastFixedOnes();
        promise19ClosingError();
        promise20Datum();
        promise21BenchmarkByHeight();
        CHECK.end();
    }

    private static void promise14BenchmarkCount() {
        CHECK.due("benchmarkCount", Build.benchmarks(0).benchmarkCount(), 0);
        CHECK.due("benchmarkCount", Build.benchmarks(7).benchmarkCount(), 7);
    }

    private static void promise15IsFixed() {
        LevelingNetwork x = Build.triangle();
        x.fix(0, 5);
        CHECK.due("isFixed", x.isFixed(0), true);
        CHECK.due("isFixed with a height from elsewhere", x.isFixed(1), false);
        CHECK.dueThrow("isFixed beyond", INDEX, () -> x.isFixed(4));
        CHECK.dueThrow("isFixed below", INDEX, () -> x.isFixed(-1));
    }

    private static void promise16HasHeight() {
        LevelingNetwork x = Build.triangle();
        CHECK.due("hasHeight without a datum", x.hasHeight(0), false);
        x.fix(2, 5);
        CHECK.due("hasHeight", x.hasHeight(0), true);
        CHECK.due("hasHeight", x.hasHeight(2), true);
        CHECK.due("hasHeight in another tree", x.hasHeight(3), false);
        x.exclude(1);
        CHECK.due("hasHeight over another line", x.hasHeight(1), true);
        x.exclude(2);
        CHECK.due("hasHeight cut off", x.hasHeight(1), false);
        CHECK.dueThrow("hasHeight beyond", INDEX, () -> x.hasHeight(4));
        CHECK.dueThrow("hasHeight below", INDEX, () -> x.hasHeight(-1));
    }

    private static void promise17And18Height() {
        LevelingNetwork x = Build.triangle();
        CHECK.dueThrow("height without a datum", ELEMENT, () -> x.height(0));
        CHECK.dueThrow("heightByRounds without a datum", ELEMENT, () -> x.heightByRounds(0));
        x.fix(1, 1000);
        dueHeight(x, 0, 900);
        dueHeight(x, 1, 1000);
        dueHeight(x, 2, 1050);
        CHECK.dueThrow("height in another tree", ELEMENT, () -> x.height(3));
        CHECK.dueThrow("heightByRounds in another tree", ELEMENT, () -> x.heightByRounds(3));
        CHECK.dueThrow("height beyond", INDEX, () -> x.height(4));
        CHECK.dueThrow("height below", INDEX, () -> x.height(-1));
        CHECK.dueThrow("heightByRounds beyond", INDEX, () -> x.heightByRounds(4));
        CHECK.dueThrow("heightByRounds below", INDEX, () -> x.heightByRounds(-1));
        x.shareMisclosure(2);
        dueHeight(x, 0, 903);
        dueHeight(x, 2, 1048);
        x.exclude(0);
        dueHeight(x, 0, 1048 - 145);
    }

    /** The lines stand against the order in which the rounds meet them. */
    private static void promise17And18LongWay() {
        LevelingNetwork x = Build.benchmarks(10);
        for (int i = 8; i >= 0; i--) {
            x.addLine(i + 1, i, -9999, 50);
        }
        x.fix(0, 99999);
        dueHeight(x, 9, 99999 + 9 * 9999);
        x.release(0);
        x.fix(9, -99999);
        dueHeight(x, 0, -99999 - 9 * 9999);
    }

    private static void promise17And18PastFixedOnes() {
        LevelingNetwork x = Build.benchmarks(3);
        x.addLine(0, 1, 10, 1);
        x.addLine(1, 2, 10, 1);
        x.fix(1, 5000);
        dueHeight(x, 2, 5010);
        x.fix(0, 100);
        dueHeight(x, 1, 5000);
        dueHeight(x, 2, 120);
    }

    private static void dueHeight(LevelingNetwork x, int benchmark, int want) {
        CHECK.due("height", x.height(benchmark), want);
        CHECK.due("heightByRounds", x.heightByRounds(benchmark), want);
    }

    private static void promise19ClosingError() {
        LevelingNetwork x = Build.triangle();
        x.fix(1, 1000);
        x.fix(2, 1040);
        CHECK.due("closingError of the datum", x.closingError(1), 0);
        CHECK.due("closingError", x.closingError(2), 10);
        x.fix(0, 0);
        CHECK.due("closingError of the new datum", x.closingError(0), 0);
        CHECK.due("closingError", x.closingError(1), -900);
        CHECK.due("closingError past a fixed one", x.closingError(2), -890);
        CHECK.dueThrow("closingError of a free one", ELEMENT, () -> x.closingError(3));
        CHECK.dueThrow("closingError beyond", INDEX, () -> x.closingError(4));
        CHECK.dueThrow("closingError below", INDEX, () -> x.closingError(-1));
    }

    private static void promise20Datum() {
        LevelingNetwork x = Build.triangle();
        CHECK.dueThrow("datum without a fixed one", ELEMENT, () -> x.datum(0));
        x.fix(2, 5);
        CHECK.due("datum", x.datum(0), 2);
        x.fix(1, 5);
        CHECK.due("datum", x.datum(0), 1);
        CHECK.due("datum of a fixed one", x.datum(2), 1);
        CHECK.dueThrow("datum in another tree", ELEMENT, () -> x.datum(3));
        x.fix(3, 5);
        CHECK.due("datum alone", x.datum(3), 3);
        CHECK.dueThrow("datum beyond", INDEX, () -> x.datum(4));
        CHECK.dueThrow("datum below", INDEX, () -> x.datum(-1));
    }

    private static void promise21BenchmarkByHeight() {
        LevelingNetwork x = Build.triangle();
        CHECK.dueThrow("rank without heights", ELEMENT, () -> x.benchmarkByHeight(0));
        x.fix(0, -50);
        x.fix(3, 100);
        x.addBenchmark();
        x.addBenchmark();
        x.fix(5, 50);
        // heights: -50, 50, 100, 100, none, 50
        int[] want = {2, 3, 1, 5, 0};
        for (int i = 0; i < want.length; i++) {
            CHECK.due("benchmarkByHeight " + i, x.benchmarkByHeight(i), want[i]);
        }
        CHECK.dueThrow("rank beyond", ELEMENT, () -> x.benchmarkByHeight(5));
        CHECK.dueThrow("rank below", ELEMENT, () -> x.benchmarkByHeight(-1));
    }
}
