import java.util.NoSuchElementException;

/** Promises 33 to 43 at their edges: no line, all lines, the least and the greatest loop, equal lengths, parts. */
public final class LoopsEdgesTest {
    private static final Check CHECK = new Check("LoopsEdgesTest");
    private static final Class<NoSuchElementException> ELEMENT = NoSuchElementException.class;

    private LoopsEdgesTest() {
    }

    public static void main(String[] args) {
        promise33OrderOfEqualLengths();
        promise33OrderOfLengths();
        promise33UsableOnly();
        promise34To38NoLines();
        promise34To38AllBetweenTwo();
        promise34To38NoLoop();
        promise36Trees();
        promise38Positions();
        promise39And40LeastAndGreatest();
        promise39To43NoLoop();
        promise41And42Limits();
        promise41And42BothDirections();
        promise43EveryAmount();
        promise43OutsideTheLoop();
        promise43LargestRemainders();
        promise43OneLoopAfterAnother();
        CHECK.end();
    }

    /** Of equal lengths the last index closes the loop, wherever the ring begins. */
    private static void promise33OrderOfEqualLengths() {
        for (int start = 0; start < 10; start++) {
            LevelingNetwork x = Build.benchmarks(10);
            for (int i = 0; i < 10; i++) {
                x.addLine((start + i) % 10, (start + i + 1) % 10, 0, 50);
            }
            for (int i = 0; i < 10; i++) {
                CHECK.due("promise 33: isInForest(" + i + ")", x.isInForest(i), i < 9);
            }
            CHECK.due("promise 34: forestLength()", x.forestLength(), 450);
            CHECK.due("promise 35: forestLengthByGrowing()", x.forestLengthByGrowing(), 450);
        }
    }

    /** One unit more or less decides before the index does. */
    private static void promise33OrderOfLengths() {
        for (int longest = 0; longest < 10; longest++) {
            LevelingNetwork x = Build.benchmarks(10);
            for (int i = 0; i < 10; i++) {
                x.addLine(i, (i + 1) % 10, 0, i == longest ? 50 : 49);
            }
            for (int i = 0; i < 10; i++) {
                CHECK.due("promise 33: isInForest(" + i + ")", x.isInForest(i), i != longest);
            }
            CHECK.due("promise 34: forestLength()", x.forestLength(), 9 * 49);
            CHECK.due("promise 35: forestLengthByGrowing()", x.forestLengthByGrowing(), 9 * 49);
        }
    }

    private static void promise33UsableOnly() {
        LevelingNetwork x = Build.benchmarks(2);
        x.addLine(0, 1, 0, 1);
        x.addLine(0, 1, 0, 2);
        x.addLine(1, 0, 0, 3);
        x.exclude(0);
        x.addBackwardRun(1, 5);
        for (int line = 0; line < 3; line++) {
            CHECK.due("promise 33: isInForest(" + line + ")", x.isInForest(line), line == 2);
        }
        CHECK.due("promise 37: loopCount()", x.loopCount(), 0);
        CHECK.due("promise 34: forestLength()", x.forestLength(), 3);
        CHECK.due("promise 35: forestLengthByGrowing()", x.forestLengthByGrowing(), 3);
    }

    private static void promise34To38NoLines() {
        for (int count = 0; count <= 10; count++) {
            LevelingNetwork x = Build.benchmarks(count);
            CHECK.due("promise 34: forestLength()", x.forestLength(), 0);
            CHECK.due("promise 35: forestLengthByGrowing()", x.forestLengthByGrowing(), 0);
            CHECK.due("promise 36: treeCount()", x.treeCount(), count);
            CHECK.due("promise 37: loopCount()", x.loopCount(), 0);
            CHECK.dueThrow("promise 38: loopAt(0)", ELEMENT, () -> x.loopAt(0));
        }
    }

    private static LevelingNetwork sixteenBetweenTwo() {
        LevelingNetwork x = Build.benchmarks(2);
        for (int i = 0; i < 16; i++) {
            x.addLine(i % 2, 1 - i % 2, 9999, i == 7 ? 1 : 50);
        }
        return x;
    }

    private static void promise34To38AllBetweenTwo() {
        LevelingNetwork x = sixteenBetweenTwo();
        CHECK.due("promise 34: forestLength()", x.forestLength(), 1);
        CHECK.due("promise 35: forestLengthByGrowing()", x.forestLengthByGrowing(), 1);
        CHECK.due("promise 36: treeCount()", x.treeCount(), 1);
        CHECK.due("promise 37: loopCount()", x.loopCount(), 15);
        for (int i = 0; i < 15; i++) {
            CHECK.due("promise 38: loopAt(" + i + ")", x.loopAt(i), i < 7 ? i : i + 1);
        }
        for (int i = 0; i < 16; i++) {
            x.exclude(i);
        }
        CHECK.due("promise 34: forestLength() of none", x.forestLength(), 0);
        CHECK.due("promise 35: forestLengthByGrowing() of none", x.forestLengthByGrowing(), 0);
        CHECK.due("promise 36: treeCount() of none", x.treeCount(), 2);
        CHECK.due("promise 37: loopCount() of none", x.loopCount(), 0);
    }

    private static void promise34To38NoLoop() {
        Scene row = new Scene("a row of ten", () -> {
            LevelingNetwork x = Build.ring(10, 50, 0);
            x.exclude(9);
            return x;
        });
        CHECK.due("promise 34: forestLength(), the greatest", row.make().forestLength(), 450);
        CHECK.due("promise 35: forestLengthByGrowing(), the greatest", row.make().forestLengthByGrowing(), 450);
        CHECK.due("promise 36: treeCount()", row.make().treeCount(), 1);
        CHECK.due("promise 37: loopCount()", row.make().loopCount(), 0);
        for (int position : Scene.outside(0)) {
            row.refuses(CHECK, "promise 38: loopAt(" + position + ")", ELEMENT, x -> x.loopAt(position));
        }
    }

    private static void promise36Trees() {
        LevelingNetwork x = Build.ring(10, 1, 0);
        CHECK.due("promise 36: the whole ring", x.treeCount(), 1);
        for (int i = 0; i < 10; i++) {
            x.exclude(i);
            CHECK.due("promise 36: " + (i + 1) + " lines away", x.treeCount(), i + 1);
        }
        x.addLine(9, 0, 0, 50);
        CHECK.due("promise 36: the ends joined", x.treeCount(), 9);
    }

    private static void promise38Positions() {
        int[] want = {9, 12, 13, 14, 15};
        LevelingNetwork x = Scene.FULL.make();
        for (int i = 0; i < want.length; i++) {
            CHECK.due("promise 38: loopAt(" + i + ")", x.loopAt(i), want[i]);
        }
        for (int position : Scene.outside(5)) {
            Scene.FULL.refuses(CHECK, "promise 38: loopAt(" + position + ")", ELEMENT, y -> y.loopAt(position));
        }
        for (int position : Scene.outside(2)) {
            Scene.PARTLY.refuses(CHECK, "promise 38: loopAt(" + position + ")", ELEMENT, y -> y.loopAt(position));
        }
    }

    private static void promise39And40LeastAndGreatest() {
        for (int lines = 2; lines <= 10; lines++) {
            for (int length : new int[] {1, 50}) {
                LevelingNetwork x = Build.ring(lines, length, 0);
                CHECK.due("promise 39: loopSize of " + lines, x.loopSize(lines - 1), lines);
                CHECK.due("promise 40: loopLength of " + lines, x.loopLength(lines - 1), lines * length);
            }
        }
        LevelingNetwork x = sixteenBetweenTwo();
        CHECK.due("promise 39: loopSize(15)", x.loopSize(15), 2);
        CHECK.due("promise 40: loopLength(15)", x.loopLength(15), 51);
    }

    private static void promise39To43NoLoop() {
        int[] inFull = {0, 8, 10, 11};
        for (int line : inFull) {
            refuseLoop(Scene.FULL, line);
        }
        int[] inPartly = {0, 1, 4};
        for (int line : inPartly) {
            refuseLoop(Scene.PARTLY, line);
        }
    }

    private static void refuseLoop(Scene scene, int line) {
        scene.refuses(CHECK, "promise 39: loopSize(" + line + ")", ELEMENT, x -> x.loopSize(line));
        scene.refuses(CHECK, "promise 40: loopLength(" + line + ")", ELEMENT, x -> x.loopLength(line));
        scene.refuses(CHECK, "promise 41: misclosure(" + line + ")", ELEMENT, x -> x.misclosure(line));
        scene.refuses(CHECK, "promise 42: misclosureByLevels(" + line + ")", ELEMENT, x -> x.misclosureByLevels(line));
        scene.refuses(CHECK, "promise 43: part(" + line + ", 0)", ELEMENT, x -> x.part(line, 0));
        scene.refuses(CHECK, "promise 43: part(" + line + ", 2)", ELEMENT, x -> x.part(line, 2));
    }

    private static void dueMisclosure(LevelingNetwork x, int line, int want) {
        CHECK.due("promise 41: misclosure(" + line + ")", x.misclosure(line), want);
        CHECK.due("promise 42: misclosureByLevels(" + line + ")", x.misclosureByLevels(line), want);
    }

    private static void promise41And42Limits() {
        for (int forward : new int[] {-9999, 9999}) {
            LevelingNetwork x = Build.benchmarks(10);
            for (int i = 0; i < 10; i++) {
                x.addLine(i, (i + 1) % 10, forward, 50);
            }
            dueMisclosure(x, 9, 10 * forward);
            LevelingNetwork y = sixteenBetweenTwo();
            dueMisclosure(y, 0, 2 * 9999);
            dueMisclosure(y, 9, 0);
        }
        for (int amount : new int[] {-1, 0, 1}) {
            dueMisclosure(Build.ring(10, 50, amount), 9, amount);
            dueMisclosure(Build.ring(2, 1, amount), 1, amount);
        }
    }

    /** The forest lines are passed from their first to their second benchmarks, the other way, and mixed. */
    private static void promise41And42BothDirections() {
        for (int mask = 0; mask < 16; mask++) {
            LevelingNetwork x = Build.benchmarks(4);
            int rise = 0;
            for (int i = 0; i < 3; i++) {
                boolean turned = (mask >> i & 1) == 1;
                x.addLine(turned ? i + 1 : i, turned ? i : i + 1, 10 + i, 1);
                rise += turned ? -10 - i : 10 + i;
            }
            boolean turned = mask >= 8;
            x.addLine(turned ? 0 : 3, turned ? 3 : 0, -5, 9);
            dueMisclosure(x, 3, turned ? -5 - rise : rise - 5);
        }
    }

    private static int sumOfParts(LevelingNetwork x, int loop) {
        int sum = 0;
        for (int line = 0; line < x.lineCount(); line++) {
            int part = x.part(loop, line);
            CHECK.due("promise 43: part is negative", part < 0, false);
            sum += part;
        }
        return sum;
    }

    /** Each misclosure has the same parts as its opposite, and all of it is given out. */
    private static void promise43EveryAmount() {
        for (int amount = 0; amount <= 40; amount++) {
            for (int sign : new int[] {-1, 1}) {
                LevelingNetwork x = Build.ring(10, 7, sign * amount);
                CHECK.due("promise 43: sum of the parts of " + sign * amount, sumOfParts(x, 9), amount);
                for (int line = 0; line < 10; line++) {
                    int want = amount / 10 + (line < amount % 10 ? 1 : 0);
                    CHECK.due("promise 43: part(9, " + line + ") of " + sign * amount, x.part(9, line), want);
                }
            }
        }
        LevelingNetwork x = Build.benchmarks(10);
        for (int i = 0; i < 10; i++) {
            x.addLine(i, (i + 1) % 10, 9999, 41 + i % 9);
        }
        CHECK.due("promise 43: sum of the parts of the greatest", sumOfParts(x, 8), 99990);
    }

    private static void promise43OutsideTheLoop() {
        LevelingNetwork x = Scene.FULL.make();
        int[] inLoop = {3, 4, 14};
        CHECK.due("promise 43: sum of the parts", sumOfParts(x, 14), 2);
        for (int line = 0; line < 16; line++) {
            boolean member = line == inLoop[0] || line == inLoop[1] || line == inLoop[2];
            if (!member) {
                CHECK.due("promise 43: part(14, " + line + ")", x.part(14, line), 0);
            }
        }
        CHECK.due("promise 43: part(12, 15) of another loop", x.part(12, 15), 0);
        CHECK.due("promise 43: part(12, 10) of an excluded line", x.part(12, 10), 0);
        CHECK.due("promise 43: part(9, 9) of nothing", x.part(9, 9), 0);
        LevelingNetwork y = Build.ring(2, 1, 1);
        CHECK.due("promise 43: part(1, 0), the lower index", y.part(1, 0), 1);
        CHECK.due("promise 43: part(1, 1)", y.part(1, 1), 0);
    }

    /** The loop has length 10, so that the remainders are the last digits of the products. */
    private static void promise43LargestRemainders() {
        int[][] rows = {{1, 0, 0, 1}, {2, 0, 1, 1}, {3, 1, 1, 1}, {4, 1, 1, 2}, {5, 1, 2, 2}, {6, 1, 2, 3},
            {7, 1, 2, 4}, {8, 2, 2, 4}, {9, 2, 3, 4}, {10, 2, 3, 5}, {11, 2, 3, 6}, {13, 3, 4, 6}};
        for (int[] row : rows) {
            LevelingNetwork x = Build.benchmarks(3);
            x.addLine(0, 1, 0, 2);
            x.addLine(1, 2, 0, 3);
            x.addLine(2, 0, -row[0], 5);
            for (int line = 0; line < 3; line++) {
                CHECK.due("promise 43: part(2, " + line + ") of " + row[0], x.part(2, line), row[line + 1]);
            }
        }
    }

    /** The parts of a loop are the same whether or not those of other loops were asked for before. */
    private static void promise43OneLoopAfterAnother() {
        LevelingNetwork x = Scene.FULL.make();
        for (int round = 0; round < 2; round++) {
            for (int loop : new int[] {12, 13, 9, 15, 14}) {
                for (int line = 0; line < 16; line++) {
                    int want = Scene.FULL.make().part(loop, line);
                    CHECK.due("promise 43: part(" + loop + ", " + line + ")", x.part(loop, line), want);
                }
            }
        }
    }
}
