/** Promises 52 to 57 at their edges: no line and 16, each mark, the longest texts, the ends of the text. */
public final class OutputEdgesTest {
    private static final Check CHECK = new Check("OutputEdgesTest");
    private static final Class<IndexOutOfBoundsException> INDEX = IndexOutOfBoundsException.class;
    private static final Class<ArithmeticException> ARITHMETIC = ArithmeticException.class;

    private OutputEdgesTest() {
    }

    public static void main(String[] args) {
        promise52And53Refused();
        promise52MeanLength();
        promise53EveryShare();
        promise54Edges();
        promise55Marks();
        promise55LongestAndShortest();
        promise56Marks();
        promise56LongestAndShortest();
        promise57Ends();
        promise57Refused();
        CHECK.end();
    }

    private static LevelingNetwork lines(int count) {
        LevelingNetwork x = Build.benchmarks(2);
        for (int i = 0; i < count; i++) {
            x.addLine(0, 1, 0, 1);
        }
        return x;
    }

    private static void promise52And53Refused() {
        Scene none = new Scene("without lines", () -> lines(0));
        none.refuses(CHECK, "promise 52: meanLength()", ARITHMETIC, LevelingNetwork::meanLength);
        none.refuses(CHECK, "promise 53: usableShare()", ARITHMETIC, LevelingNetwork::usableShare);
        Scene unusable = new Scene("without usable lines", OutputEdgesTest::noUsableLines);
        unusable.refuses(CHECK, "promise 52: meanLength()", ARITHMETIC, LevelingNetwork::meanLength);
        CHECK.dueReal("promise 53: usableShare() of 0 / 2", unusable.make().usableShare(), 0.0f);
    }

    private static LevelingNetwork noUsableLines() {
        LevelingNetwork x = lines(2);
        x.exclude(0);
        x.addBackwardRun(1, 4);
        return x;
    }

    private static void promise52MeanLength() {
        for (int length : new int[] {1, 50}) {
            for (int count : new int[] {1, 16}) {
                LevelingNetwork x = Build.benchmarks(2);
                for (int i = 0; i < count; i++) {
                    x.addLine(0, 1, 0, length);
                }
                CHECK.dueReal("promise 52: " + count + " of the length " + length, x.meanLength(), length);
            }
        }
        LevelingNetwork x = lines(1);
        x.addLine(0, 1, 0, 50);
        x.addLine(0, 1, 0, 50);
        CHECK.dueReal("promise 52: 101 / 3", x.meanLength(), 101.0 / 3.0);
        x.exclude(0);
        CHECK.dueReal("promise 52: 100 / 2", x.meanLength(), 50.0);
        x.exclude(1);
        CHECK.dueReal("promise 52: 50 / 1", x.meanLength(), 50.0);
    }

    private static void promise53EveryShare() {
        for (int count = 1; count <= 16; count++) {
            LevelingNetwork x = lines(count);
            CHECK.dueReal("promise 53: all of " + count, x.usableShare(), 1.0f);
            for (int i = 0; i < count; i++) {
                x.exclude(i);
                float want = (float) (count - i - 1) / (float) count;
                CHECK.dueReal("promise 53: without " + (i + 1) + " of " + count, x.usableShare(), want);
            }
        }
    }

    private static void promise54Edges() {
        for (int count = 0; count <= 10; count++) {
            CHECK.due("promise 54: without lines", Build.benchmarks(count).isConsistent(), true);
        }
        for (int count = 0; count <= 16; count++) {
            CHECK.due("promise 54: between two benchmarks", lines(count).isConsistent(), true);
        }
        CHECK.due("promise 54: partly filled", Scene.PARTLY.make().isConsistent(), true);
        CHECK.due("promise 54: full", Scene.FULL.make().isConsistent(), true);
        CHECK.due("promise 54: no usable line", noUsableLines().isConsistent(), true);
        CHECK.due("promise 54: the greatest loop", Build.ring(10, 50, 9999).isConsistent(), true);
    }

    private static void dueLine(LevelingNetwork x, int line, String want) {
        CHECK.due("promise 55: renderLine(" + line + ")", x.renderLine(line), want.length());
        dueOutput(x, want);
    }

    private static void dueOutput(LevelingNetwork x, String want) {
        CHECK.dueText("promise 57: the output", Build.output(x, want.length()), want);
        CHECK.dueThrow("promise 57: behind it", INDEX, () -> x.outputAt(want.length()));
    }

    /** A line that is excluded and one whose runs differ too much are not usable; 4 is beyond the tolerance of 1. */
    private static void promise55Marks() {
        LevelingNetwork x = lines(4);
        x.exclude(0);
        x.addBackwardRun(1, 4);
        x.addBackwardRun(2, 3);
        dueLine(x, 0, "0:0>1 0/1x");
        dueLine(x, 1, "1:0>1 -2/1x");
        dueLine(x, 2, "2:0>1 -2/1*");
        dueLine(x, 3, "3:0>1 0/1o");
        x.exclude(1);
        dueLine(x, 1, "1:0>1 -2/1x");
    }

    /** The line 15 gets 10 of a misclosure of 30, so that its difference goes beyond the limit of runs. */
    private static void promise55LongestAndShortest() {
        LevelingNetwork x = Build.benchmarks(10);
        x.addLine(0, 1, 0, 1);
        for (int i = 1; i < 13; i++) {
            x.addLine(0, 1, 9999, 50);
        }
        x.addLine(8, 7, 9999, 50);
        x.addLine(7, 9, 30, 50);
        x.addLine(9, 8, -9999, 50);
        dueLine(x, 15, "15:9>8 -9999/50o");
        x.shareMisclosure(15);
        dueLine(x, 15, "15:9>8 -10009/50o");
        dueLine(x, 0, "0:0>1 0/1*");
        dueLine(x, 9, "9:0>1 9999/50o");
        dueLine(x, 13, "13:8>7 9989/50*");
        x.exclude(15);
        dueLine(x, 15, "15:9>8 -10009/50x");
    }

    private static void dueBenchmark(LevelingNetwork x, int benchmark, String want) {
        CHECK.due("promise 56: renderBenchmark(" + benchmark + ")", x.renderBenchmark(benchmark), want.length());
        dueOutput(x, want);
    }

    private static void promise56Marks() {
        LevelingNetwork x = Build.benchmarks(3);
        x.addLine(0, 1, -1, 1);
        dueBenchmark(x, 0, "0=?");
        dueBenchmark(x, 2, "2=?");
        x.fix(0, 0);
        x.fix(2, 0);
        dueBenchmark(x, 0, "0=0!");
        dueBenchmark(x, 1, "1=-1");
        dueBenchmark(x, 2, "2=0!");
        x.fix(1, 5);
        dueBenchmark(x, 1, "1=5!");
        x.release(0);
        dueBenchmark(x, 0, "0=6");
        x.release(2);
        dueBenchmark(x, 2, "2=?");
    }

    private static void promise56LongestAndShortest() {
        LevelingNetwork x = Build.benchmarks(10);
        for (int i = 0; i < 9; i++) {
            x.addLine(i, i + 1, -9999, 50);
        }
        x.fix(0, -99999);
        dueBenchmark(x, 0, "0=-99999!");
        dueBenchmark(x, 9, "9=-189990");
        x.fix(0, 99999);
        dueBenchmark(x, 0, "0=99999!");
        dueBenchmark(x, 9, "9=10008");
        x.fix(0, 0);
        dueBenchmark(x, 0, "0=0!");
        x.fix(9, 99999);
        dueBenchmark(x, 9, "9=99999!");
    }

    /** A shorter text leaves nothing of a longer one behind. */
    private static void promise57Ends() {
        LevelingNetwork x = Scene.FULL.make();
        CHECK.due("promise 57: the first character", x.outputAt(0), '1');
        CHECK.due("promise 57: the last character", x.outputAt(14), 'o');
        x.renderBenchmark(9);
        CHECK.due("promise 57: the first character", x.outputAt(0), '9');
        CHECK.due("promise 57: the last character", x.outputAt(5), '!');
        for (int index = 6; index < 15; index++) {
            int old = index;
            CHECK.dueThrow("promise 57: a character of the old text", INDEX, () -> x.outputAt(old));
        }
    }

    private static void promise57Refused() {
        for (int index : Scene.outside(0)) {
            Scene.PARTLY.refuses(CHECK, "promise 57: outputAt(" + index + ")", INDEX, x -> x.outputAt(index));
        }
        for (int index : Scene.outside(15)) {
            Scene.FULL.refuses(CHECK, "promise 57: outputAt(" + index + ")", INDEX, x -> x.outputAt(index));
        }
    }
}
