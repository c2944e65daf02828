/** Promises 52 to 57: totals, checks and the output text. */
final class OutputTest {
    private static final Check CHECK = new Check("OutputTest");
    private static final Class<IndexOutOfBoundsException> INDEX = IndexOutOfBoundsException.class;
    private static final Class<ArithmeticException> ARITHMETIC = ArithmeticException.class;

    private OutputTest() {
    }

    public static void main(String[] args) {
        promise52MeanLength();
        promise53UsableShare();
        promise54IsConsistent();
        promise55RenderLine();
        promise55ReplacesTheText();
        promise56RenderBenchmark();
        promise57OutputAt();
        CHECK.end();
    }

    private static void promise52MeanLength() {
        LevelingNetwork x = Build.benchmarks(2);
        CHECK.dueThrow("meanLength without lines", ARITHMETIC, x::meanLength);
        x.addLine(0, 1, 0, 5);
        CHECK.dueReal("meanLength", x.meanLength(), 5.0);
        x.addLine(0, 1, 0, 2);
        CHECK.dueReal("meanLength", x.meanLength(), 3.5);
        x.addLine(0, 1, 0, 3);
        CHECK.dueReal("meanLength", x.meanLength(), 10.0 / 3.0);
        x.exclude(0);
        CHECK.dueReal("meanLength of usable lines", x.meanLength(), 2.5);
        x.exclude(1);
        x.addBackwardRun(2, 100);
        CHECK.dueThrow("meanLength without usable lines", ARITHMETIC, x::meanLength);
    }

    private static void promise53UsableShare() {
        LevelingNetwork x = Build.benchmarks(2);
        CHECK.dueThrow("usableShare without lines", ARITHMETIC, x::usableShare);
        x.addLine(0, 1, 0, 5);
        CHECK.dueReal("usableShare", x.usableShare(), 1.0f);
        x.addLine(0, 1, 0, 5);
        x.addLine(0, 1, 0, 5);
        x.exclude(0);
        CHECK.dueReal("usableShare", x.usableShare(), 2.0f / 3.0f);
        x.exclude(1);
        x.exclude(2);
        CHECK.dueReal("usableShare of none", x.usableShare(), 0.0f);
    }

    private static void promise54IsConsistent() {
        LevelingNetwork x = Build.triangle();
        CHECK.due("isConsistent", x.isConsistent(), true);
        x.fix(1, 1000);
        x.fix(3, -7);
        x.addProfile(2);
        x.addProfile(3);
        x.addStation(0, 5, 100);
        x.addStation(0, 19, -100);
        x.setWaterLevel(1040);
        CHECK.due("isConsistent", x.isConsistent(), true);
        x.shareMisclosure(2);
        x.exclude(1);
        CHECK.due("isConsistent", x.isConsistent(), true);
    }

    private static void dueLine(LevelingNetwork x, int line, String want) {
        int length = x.renderLine(line);
        CHECK.due("renderLine", length, want.length());
        CHECK.dueText("output", Build.output(x, length), want);
    }

    private static void promise55RenderLine() {
        LevelingNetwork x = Build.triangle();
        dueLine(x, 0, "0:0>1 100/5*");
        dueLine(x, 2, "2:2>0 -140/9o");
        x.shareMisclosure(2);
        dueLine(x, 2, "2:2>0 -145/9o");
        x.addBackwardRun(0, -101);
        dueLine(x, 0, "0:0>1 97/5*");
        x.exclude(0);
        dueLine(x, 0, "0:0>1 97/5x");
        dueLine(x, 2, "2:2>0 -145/9*");
        x.addBackwardRun(1, 9999);
        dueLine(x, 1, "1:1>2 -4977/3x");
        CHECK.dueThrow("renderLine beyond", INDEX, () -> x.renderLine(3));
        CHECK.dueThrow("renderLine below", INDEX, () -> x.renderLine(-1));
        CHECK.dueText("output is kept", Build.output(x, 14), "1:1>2 -4977/3x");
        LevelingNetwork y = Build.benchmarks(10);
        for (int i = 0; i < 16; i++) {
            y.addLine(9, 8, i == 15 ? 0 : -9999, 50);
        }
        dueLine(y, 15, "15:9>8 0/50o");
        dueLine(y, 0, "0:9>8 -9999/50*");
    }

    private static void promise55ReplacesTheText() {
        LevelingNetwork x = Build.triangle();
        x.renderLine(2);
        x.renderBenchmark(0);
        CHECK.dueThrow("outputAt behind the new text", INDEX, () -> x.outputAt(3));
        x.undo();
        CHECK.dueText("output after undo", Build.output(x, 3), "0=?");
    }

    private static void dueBenchmark(LevelingNetwork x, int benchmark, String want) {
        int length = x.renderBenchmark(benchmark);
        CHECK.due("renderBenchmark", length, want.length());
        CHECK.dueText("output", Build.output(x, length), want);
    }

    private static void promise56RenderBenchmark() {
        LevelingNetwork x = Build.triangle();
        dueBenchmark(x, 3, "3=?");
        x.fix(1, 99999);
        dueBenchmark(x, 1, "1=99999!");
        dueBenchmark(x, 2, "2=100049");
        x.fix(0, -5);
        dueBenchmark(x, 0, "0=-5!");
        dueBenchmark(x, 1, "1=99999!");
        x.fix(3, 0);
        dueBenchmark(x, 3, "3=0!");
        CHECK.dueThrow("renderBenchmark beyond", INDEX, () -> x.renderBenchmark(4));
        CHECK.dueThrow("renderBenchmark below", INDEX, () -> x.renderBenchmark(-1));
        CHECK.dueText("output is kept", Build.output(x, 4), "3=0!");
    }

    private static void promise57OutputAt() {
        LevelingNetwork x = Build.triangle();
        CHECK.dueThrow("outputAt of the empty text", INDEX, () -> x.outputAt(0));
        x.renderBenchmark(0);
        CHECK.due("outputAt", x.outputAt(0), '0');
        CHECK.due("outputAt", x.outputAt(1), '=');
        CHECK.due("outputAt", x.outputAt(2), '?');
        CHECK.dueThrow("outputAt beyond", INDEX, () -> x.outputAt(3));
        CHECK.dueThrow("outputAt below", INDEX, () -> x.outputAt(-1));
    }
}
