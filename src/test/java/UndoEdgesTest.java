import java.util.ArrayList;
import java.util.List;
import java.util.NoSuchElementException;
import java.util.function.Consumer;

/** Promises 62 to 64 at their edges: nothing to undo, 8 changes and more, a snapshot of nothing and of everything. */
public final class UndoEdgesTest {
    private static final Check CHECK = new Check("UndoEdgesTest");
    private static final Class<IllegalStateException> STATE = IllegalStateException.class;
    private static final Class<NoSuchElementException> ELEMENT = NoSuchElementException.class;

    private UndoEdgesTest() {
    }

    public static void main(String[] args) {
        promise62Nothing();
        promise62EveryNumberOfChanges();
        promise62RoundAndRound();
        promise62ChangesWithoutEffect();
        promise62WhatIsNoChange();
        promise62And64EachKindOfChange();
        promise62And64LastOfEachKind();
        promise64OverOtherThings();
        promise64BareThingsAfterFullOnes();
        promise63And64Nothing();
        promise63Replaces();
        promise64NothingToUndo();
        promise64IsKept();
        promise62To64WhatIsNotCovered();
        lastCallOfAnObject();
        CHECK.end();
    }

    private static void promise62Nothing() {
        Scene.EMPTY.refuses(CHECK, "promise 62: undo() of nothing", ELEMENT, LevelingNetwork::undo);
        Scene undone = new Scene("all undone", () -> {
            LevelingNetwork x = Build.benchmarks(2);
            x.undo();
            x.undo();
            return x;
        });
        undone.refuses(CHECK, "promise 62: one undo() too many", ELEMENT, LevelingNetwork::undo);
        Scene eight = new Scene("eight of nine undone", () -> {
            LevelingNetwork x = Build.benchmarks(9);
            for (int i = 0; i < 8; i++) {
                x.undo();
            }
            return x;
        });
        eight.refuses(CHECK, "promise 62: the 9th undo()", ELEMENT, LevelingNetwork::undo);
        CHECK.due("promise 62: the first of nine changes stands", eight.make().benchmarkCount(), 1);
    }

    private static void promise62EveryNumberOfChanges() {
        for (int changes = 1; changes <= 30; changes++) {
            LevelingNetwork x = new LevelingNetwork();
            for (int i = 1; i <= changes; i++) {
                x.setWaterLevel(i);
            }
            int undos = Math.min(changes, 8);
            for (int i = 1; i <= undos; i++) {
                CHECK.due("promise 62: undo " + i + " of " + changes, x.undo(), undos - i);
                CHECK.due("promise 62: the level before", x.waterLevel(), changes - i);
            }
            CHECK.dueThrow("promise 62: no more of " + changes, ELEMENT, x::undo);
            x.setWaterLevel(99);
            CHECK.due("promise 62: a change after all undos", x.undo(), 0);
            CHECK.due("promise 62: the level before it", x.waterLevel(), changes - undos);
        }
    }

    /** As many undos as changes, again and again, never more than eight, so that each place is used from each. */
    private static void promise62RoundAndRound() {
        for (int count = 1; count <= 8; count++) {
            LevelingNetwork x = new LevelingNetwork();
            x.setWaterLevel(-1);
            for (int round = 0; round < 11; round++) {
                for (int i = 0; i < count; i++) {
                    x.setWaterLevel(100 * round + i);
                }
                for (int i = count - 1; i >= 0; i--) {
                    CHECK.due("promise 62: rounds of " + count, x.undo(), Math.min(i + 1, 7 - (count - 1 - i)));
                    CHECK.due("promise 62: levels of " + count, x.waterLevel(), i == 0 ? -1 : 100 * round + i - 1);
                }
                if (count == 8) {
                    CHECK.dueThrow("promise 62: the first change is the ninth", ELEMENT, x::undo);
                }
            }
        }
    }

    private static void promise62ChangesWithoutEffect() {
        List<Consumer<LevelingNetwork>> changes = new ArrayList<>();
        changes.add(x -> x.fix(2, 700));
        changes.add(x -> x.resetCorrections());
        changes.add(x -> x.setWaterLevel(0));
        changes.add(x -> Build.run(x, "reset"));
        changes.add(x -> Build.run(x, "water 0;fix 2 700"));
        changes.add(x -> Build.run(x, "exclude 0;include 0"));
        for (Consumer<LevelingNetwork> change : changes) {
            LevelingNetwork x = Build.triangle();
            x.fix(2, 700);
            change.accept(x);
            CHECK.due("promise 62: a change without effect", x.undo(), 7);
            CHECK.due("promise 62: the change before it stands", x.isFixed(2), true);
            CHECK.due("promise 62: and is undone next", x.undo(), 6);
            CHECK.due("promise 62: and away then", x.isFixed(2), false);
        }
    }

    private static void promise62WhatIsNoChange() {
        LevelingNetwork x = Build.benchmarks(3);
        x.setWaterLevel(5);
        x.save();
        x.type('x');
        x.renderBenchmark(0);
        CHECK.dueThrow("a script without the form", IllegalArgumentException.class, x::runScript);
        Build.type(x, "reset;free 0");
        CHECK.dueThrow("a script that fails", STATE, x::runScript);
        CHECK.dueThrow("a call that is refused", STATE, () -> x.release(0));
        CHECK.due("promise 54: isConsistent", x.isConsistent(), true);
        CHECK.due("promise 62: the only change", x.undo(), 3);
        CHECK.due("promise 62: is undone", x.waterLevel(), 0);
    }

    private static List<Consumer<LevelingNetwork>> eachKindOfChange() {
        List<Consumer<LevelingNetwork>> changes = new ArrayList<>();
        changes.add(x -> x.addBenchmark());
        changes.add(x -> x.fix(0, 5));
        changes.add(x -> x.fix(2, -700));
        changes.add(x -> x.release(2));
        changes.add(x -> x.addLine(2, 3, 1, 1));
        changes.add(x -> x.addBackwardRun(0, -99));
        changes.add(x -> x.exclude(2));
        changes.add(x -> x.shareMisclosure(2));
        changes.add(x -> x.addProfile(2));
        changes.add(x -> x.addStation(0, 99, -9));
        changes.add(x -> x.setWaterLevel(690));
        changes.add(x -> Build.run(x, "share 2;reset;point;line 34 1/1;back 3 1;exclude 0"));
        return changes;
    }

    private static LevelingNetwork changed(Consumer<LevelingNetwork> change, Consumer<LevelingNetwork> back) {
        LevelingNetwork x = Scene.PARTLY.make();
        x.save();
        change.accept(x);
        back.accept(x);
        return x;
    }

    /** Undone or restored, nothing is left of the change in all that can be seen. */
    private static void promise62And64EachKindOfChange() {
        List<String> before = Look.survey(Scene.PARTLY::make);
        int number = 0;
        for (Consumer<LevelingNetwork> change : eachKindOfChange()) {
            number++;
            String told = "kind of change " + number;
            List<String> after = Look.survey(() -> changed(change, x -> x.isConsistent()));
            CHECK.due(told + " can be seen", Look.difference(after, before).isEmpty(), false);
            List<String> undone = Look.survey(() -> changed(change, x -> x.undo()));
            CHECK.dueText("promise 62: " + told, Look.difference(undone, before), "");
            List<String> restored = Look.survey(() -> changed(change, x -> x.restore()));
            CHECK.dueText("promise 64: " + told, Look.difference(restored, before), "");
        }
    }

    private static void fill(LevelingNetwork x) {
        for (int i = 0; i < 10; i++) {
            x.addBenchmark();
            x.fix(i, i);
        }
        for (int i = 0; i < 16; i++) {
            x.addLine(i % 10, (i + 1) % 10, i, i + 1);
            x.addBackwardRun(i, -i - 1);
        }
        for (int i = 0; i < 4; i++) {
            x.addProfile(9 - i);
            for (int j = 0; j < 10; j++) {
                x.addStation(i, 10 * i + j, i + j);
            }
        }
    }

    /** The last of each kind changes in all it has, and in a full network nothing else may. */
    private static void promise62And64LastOfEachKind() {
        List<Consumer<LevelingNetwork>> changes = new ArrayList<>();
        changes.add(x -> x.fix(9, -9));
        changes.add(x -> x.release(9));
        changes.add(x -> x.exclude(15));
        changes.add(x -> x.shareMisclosure(15));
        changes.add(x -> x.setWaterLevel(8));
        List<String> before = Look.survey(() -> filled(x -> x.save()));
        for (Consumer<LevelingNetwork> change : changes) {
            List<String> undone = Look.survey(() -> filled(change.andThen(x -> x.undo())));
            CHECK.dueText("promise 62: a full network", Look.difference(undone, before), "");
            Consumer<LevelingNetwork> save = x -> x.save();
            List<String> restored = Look.survey(() -> filled(save.andThen(change).andThen(x -> x.restore())));
            CHECK.dueText("promise 64: a full network", Look.difference(restored, before), "");
        }
    }

    private static LevelingNetwork filled(Consumer<LevelingNetwork> action) {
        LevelingNetwork x = new LevelingNetwork();
        fill(x);
        action.accept(x);
        return x;
    }

    /** Eight changes are saved and undone, and eight others take their places until the snapshot comes back. */
    private static void promise64OverOtherThings() {
        for (int kind = 0; kind < 4; kind++) {
            int which = kind;
            List<String> want = Look.survey(() -> {
                LevelingNetwork x = startOf(which);
                eightChanges(x, which, 1);
                return x;
            });
            List<String> got = Look.survey(() -> {
                LevelingNetwork x = startOf(which);
                eightChanges(x, which, 1);
                x.save();
                for (int i = 0; i < 8; i++) {
                    x.undo();
                }
                eightChanges(x, which, 2);
                x.restore();
                return x;
            });
            CHECK.dueText("promise 64: over other things, kind " + kind, Look.difference(got, want), "");
        }
    }

    /** A network that lacks lines (0), backward runs too (1), profiles with stations (2) or stations (3). */
    private static LevelingNetwork startOf(int kind) {
        LevelingNetwork x = Build.benchmarks(10);
        x.fix(0, 100);
        for (int i = 0; i < (kind == 0 ? 8 : 12); i++) {
            x.addLine(i % 10, (i + 1) % 10, i, 10);
        }
        if (kind == 3) {
            for (int i = 0; i < 4; i++) {
                x.addProfile(i);
            }
            x.addStation(3, 1, 1);
            x.addStation(3, 2, 5);
        }
        return x;
    }

    private static void eightChanges(LevelingNetwork x, int kind, int version) {
        for (int i = 0; i < 8; i++) {
            int half = i / 2;
            if (kind == 0) {
                x.addLine((i + 8) % 10, (i + 8 + version) % 10, i * version, 10 * version + i);
            } else if (kind == 1 && i % 2 == 0) {
                x.addLine(half + version, 9 - half - version, 7 * version, 3 * version);
            } else if (kind == 1) {
                x.addBackwardRun(12 + half, -6 * version);
            } else if (kind == 2 && i % 2 == 0) {
                x.addProfile(half + version);
            } else if (kind == 2) {
                x.addStation(half, 20 * version, -version);
            } else {
                x.addStation(3, 10 * version + i, 3 * i * version);
            }
        }
    }

    private static void addBareThings(LevelingNetwork x) {
        for (int i = 0; i < 10; i++) {
            x.addBenchmark();
        }
        for (int i = 0; i < 16; i++) {
            x.addLine(i % 2, 1 - i % 2, 0, 1);
        }
        for (int i = 0; i < 4; i++) {
            x.addProfile(0);
        }
    }

    /** The places of a full network are taken by an empty one and by new things that know nothing of the old ones. */
    private static void promise64BareThingsAfterFullOnes() {
        List<String> emptied = Look.survey(UndoEdgesTest::emptied);
        CHECK.dueText("promise 64: empty again", Look.difference(emptied, Look.survey(LevelingNetwork::new)), "");
        List<String> got = Look.survey(() -> {
            LevelingNetwork x = emptied();
            addBareThings(x);
            return x;
        });
        List<String> want = Look.survey(() -> {
            LevelingNetwork x = new LevelingNetwork();
            addBareThings(x);
            return x;
        });
        CHECK.dueText("promise 64: new things afterwards", Look.difference(got, want), "");
    }

    private static LevelingNetwork emptied() {
        LevelingNetwork x = new LevelingNetwork();
        x.save();
        fill(x);
        x.shareMisclosure(15);
        x.exclude(0);
        x.exclude(15);
        x.restore();
        return x;
    }

    private static void promise63And64Nothing() {
        for (Scene scene : new Scene[] {Scene.EMPTY, Scene.PARTLY}) {
            scene.refuses(CHECK, "promise 64: restore() without a snapshot", STATE, LevelingNetwork::restore);
        }
        LevelingNetwork x = new LevelingNetwork();
        CHECK.due("promise 63: save() of no lines", x.save(), 0);
        x.addBenchmark();
        x.setWaterLevel(5);
        CHECK.due("promise 64: restore() of no lines", x.restore(), 0);
        CHECK.due("promise 64: no benchmark", x.benchmarkCount(), 0);
        CHECK.due("promise 64: no water", x.waterLevel(), 0);
        LevelingNetwork full = Scene.FULL.make();
        CHECK.due("promise 64: restore() of 16 lines", full.restore(), 16);
        CHECK.due("promise 63: save() of 16 lines", full.save(), 16);
    }

    private static void promise63Replaces() {
        LevelingNetwork x = Build.benchmarks(2);
        for (int i = 0; i < 16; i++) {
            CHECK.due("promise 63: save() of " + i + " lines", x.save(), i);
            x.addLine(0, 1, 0, 1);
        }
        CHECK.due("promise 64: the latest snapshot", x.restore(), 15);
        CHECK.due("promise 64: lineCount()", x.lineCount(), 15);
        x.restore();
        x.exclude(0);
        x.save();
        x.undo();
        CHECK.due("promise 62: undo past the snapshot", x.isExcluded(0), false);
        x.restore();
        CHECK.due("promise 64: the snapshot is not undone", x.isExcluded(0), true);
    }

    private static void promise64NothingToUndo() {
        for (int changes = 0; changes <= 10; changes++) {
            LevelingNetwork x = new LevelingNetwork();
            x.setWaterLevel(1);
            x.save();
            for (int i = 0; i < changes; i++) {
                x.setWaterLevel(2 + i);
            }
            x.restore();
            CHECK.dueThrow("promise 64: nothing to undo after " + changes, ELEMENT, x::undo);
            CHECK.due("promise 64: the level of the snapshot", x.waterLevel(), 1);
            for (int i = 0; i < 9; i++) {
                x.setWaterLevel(50 + i);
            }
            for (int i = 7; i >= 0; i--) {
                CHECK.due("promise 62: new changes", x.undo(), i);
            }
            CHECK.due("promise 62: the first new change", x.waterLevel(), 50);
            CHECK.dueThrow("promise 62: no more", ELEMENT, x::undo);
        }
        LevelingNetwork x = new LevelingNetwork();
        x.save();
        x.setWaterLevel(5);
        CHECK.due("promise 62: save() keeps what can be undone", x.undo(), 0);
        x.restore();
        x.setWaterLevel(6);
        CHECK.due("promise 62: one change after restore()", x.undo(), 0);
        CHECK.due("promise 62: back to the snapshot", x.waterLevel(), 0);
    }

    private static void promise64IsKept() {
        LevelingNetwork x = Scene.PARTLY.make();
        x.save();
        for (int round = 0; round < 3; round++) {
            x.fix(0, round);
            x.exclude(0);
            x.addStation(0, 30 + round, 0);
            CHECK.due("promise 64: restore(), round " + round, x.restore(), 5);
            CHECK.due("promise 64: isFixed(0)", x.isFixed(0), false);
            CHECK.due("promise 64: isExcluded(0)", x.isExcluded(0), false);
            CHECK.due("promise 64: stationCount(0)", x.stationCount(0), 2);
        }
        CHECK.due("promise 64: restore() at once again", x.restore(), 5);
    }

    /** The buffer, the error position, the failed command, the output text and the snapshot stay as they are. */
    private static void promise62To64WhatIsNotCovered() {
        LevelingNetwork undone = Scene.FULL.make();
        undone.undo();
        dueUncovered("promise 62", undone);
        LevelingNetwork restored = Scene.FULL.make();
        restored.restore();
        dueUncovered("promise 64", restored);
        LevelingNetwork both = Scene.FULL.make();
        both.restore();
        CHECK.due("promise 64: the level of the snapshot", both.waterLevel(), -30);
        both.setWaterLevel(1);
        both.undo();
        dueUncovered("promise 62 and 64", both);
    }

    private static void dueUncovered(String told, LevelingNetwork x) {
        CHECK.dueText(told + ": the output text", Build.output(x, 15), "12:8>2 9999/50o");
        CHECK.due(told + ": errorPosition()", x.errorPosition(), 9);
        CHECK.due(told + ": failedCommand()", x.failedCommand(), 2);
        CHECK.due(told + ": the buffer", x.type('0'), 8);
        CHECK.due(told + ": runScript()", x.runScript(), 1);
        CHECK.due(told + ": its effect", x.waterLevel(), 70);
        CHECK.due(told + ": the snapshot", x.restore(), 16);
    }

    /** An object is used for at most 512 calls: the last one is answered like the first one. */
    private static void lastCallOfAnObject() {
        LevelingNetwork x = new LevelingNetwork();
        for (int i = 1; i <= 511; i++) {
            CHECK.due("call " + i, x.setWaterLevel(i), i - 1);
        }
        CHECK.due("call 512", x.undo(), 7);
        LevelingNetwork y = Build.ring(10, 50, 67);
        for (int i = 0; i < 491; i++) {
            CHECK.due("isConsistent again", y.isConsistent(), true);
        }
        CHECK.due("call 512", y.shareMisclosure(9), 67);
    }
}
