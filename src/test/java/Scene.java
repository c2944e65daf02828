import java.util.List;
import java.util.function.Consumer;
import java.util.function.Supplier;

/** A network that can be made again in the same way, so that what a call leaves behind can be compared with it. */
final class Scene {
    /** Nothing there yet. */
    static final Scene EMPTY = new Scene("empty", LevelingNetwork::new);
    /** Something of each kind, and room for more; nothing has been typed, saved or drawn. */
    static final Scene PARTLY = new Scene("partly filled", Scene::makePartly);
    /** As much of each kind as there may be, with all that a refused call could touch. */
    static final Scene FULL = new Scene("full", Scene::makeFull);

    private final String name;
    private final Supplier<LevelingNetwork> maker;
    private final List<String> seen;

    Scene(String name, Supplier<LevelingNetwork> maker) {
        this.name = name;
        this.maker = maker;
        seen = Look.at(maker);
    }

    LevelingNetwork make() {
        return maker.get();
    }

    /** The indices next to those that are there, and those that are farthest away. */
    static int[] outside(int count) {
        return new int[] {-1, count, Integer.MIN_VALUE, Integer.MAX_VALUE};
    }

    /** The call has to throw just this, and all that can be seen has to be as without the call. */
    void refuses(Check check, String call, Class<? extends RuntimeException> want, Consumer<LevelingNetwork> action) {
        String told = call + " in a network that is " + name;
        LevelingNetwork x = make();
        check.dueThrow(told, want, () -> action.accept(x));
        check.dueText("what changed by " + told, Look.difference(Look.at(() -> afterRefusal(action)), seen), "");
    }

    /** What is typed behind the buffer of the scene has to fail as a whole, and only the buffer is empty afterwards. */
    void refusesScript(Check check, String text, Class<? extends RuntimeException> want) {
        String told = "\"" + text + "\" in a network that is " + name;
        LevelingNetwork x = make();
        Build.type(x, text);
        check.dueThrow(told, want, x::runScript);
        check.due("the buffer after " + told, x.type('p'), 1);
        List<String> got = Look.withoutScripts(() -> afterScript(text));
        check.dueText("what changed by " + told, Look.difference(got, Look.withoutScripts(maker)), "");
    }

    private LevelingNetwork afterScript(String text) {
        return afterRefusal(x -> {
            Build.type(x, text);
            x.runScript();
        });
    }

    private LevelingNetwork afterRefusal(Consumer<LevelingNetwork> action) {
        LevelingNetwork x = make();
        try {
            action.accept(x);
        } catch (RuntimeException e) {
            return x;
        }
        return x;
    }

    private static LevelingNetwork makePartly() {
        LevelingNetwork x = Build.triangle();
        x.addLine(0, 1, 9000, 40);
        x.addLine(1, 0, -101, 2);
        x.addBackwardRun(4, 160);
        x.addProfile(1);
        x.addProfile(3);
        x.addStation(0, 20, 30);
        x.addStation(0, 27, -40);
        x.fix(2, 700);
        x.exclude(1);
        x.include(1);
        return x;
    }

    /**
     * The lines 0 to 8 are the forest, and the lines 9, 12, 13, 14 and 15 close loops, 12 with a misclosure that is
     * too great; the line 10 is excluded, and the line 11 is not usable. Nine changes came after the snapshot.
     */
    private static LevelingNetwork makeFull() {
        LevelingNetwork x = Build.benchmarks(10);
        for (int i = 0; i < 10; i++) {
            x.addLine(i, (i + 1) % 10, i < 9 ? 7 : -60, i < 9 ? 5 : 50);
        }
        x.addLine(0, 5, 35, 1);
        x.addLine(0, 6, 40, 2);
        x.addLine(8, 2, 9999, 50);
        x.addLine(3, 5, 15, 30);
        x.addLine(3, 5, 16, 31);
        x.addLine(4, 7, 20, 6);
        x.addBackwardRun(10, -34);
        x.addBackwardRun(11, -60);
        x.addBackwardRun(0, -8);
        for (int i = 0; i < 4; i++) {
            x.addProfile(3 * i);
        }
        for (int i = 0; i < 10; i++) {
            x.addStation(0, 11 * i, i % 2 == 0 ? 90 : -90);
        }
        x.addStation(2, 99, 5);
        x.fix(9, 500);
        x.fix(2, -40);
        x.setWaterLevel(-30);
        x.save();
        failTwice(x);
        changeNineTimes(x);
        x.renderLine(12);
        Build.type(x, "water 7");
        return x;
    }

    private static void failTwice(LevelingNetwork x) {
        Build.type(x, "reset;poi");
        fail(x);
        Build.type(x, "reset;reset;point");
        fail(x);
    }

    private static void fail(LevelingNetwork x) {
        try {
            x.runScript();
        } catch (IllegalArgumentException | IllegalStateException e) {
            return;
        }
        throw new AssertionError("the script should fail");
    }

    private static void changeNineTimes(LevelingNetwork x) {
        x.shareMisclosure(9);
        x.exclude(10);
        x.setWaterLevel(440);
        x.release(2);
        x.fix(4, 480);
        x.shareMisclosure(14);
        x.resetCorrections();
        x.shareMisclosure(9);
        x.fix(4, 470);
    }
}
