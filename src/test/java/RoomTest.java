import java.lang.reflect.Array;
import java.lang.reflect.Field;
import java.lang.reflect.Modifier;
import java.util.ArrayDeque;
import java.util.Collections;
import java.util.Deque;
import java.util.IdentityHashMap;
import java.util.Set;

/**
 * A run has room for some 600,000 objects and 7,300,000 fields and elements. A network takes a small share of it when
 * it is made, and no more later on: that no method makes anything but exceptions is for LanguageTest to see.
 */
public final class RoomTest {
    private static final Check CHECK = new Check("RoomTest");
    private static final int MOST_OBJECTS = 600;
    private static final int MOST_ELEMENTS = 8000;
    private static final int MOST_CALLS = 512;

    private final Set<Object> met = Collections.newSetFromMap(new IdentityHashMap<>());
    private final Deque<Object> waiting = new ArrayDeque<>();
    private long elements;

    private RoomTest(Object start) throws IllegalAccessException {
        meet(start);
        while (!waiting.isEmpty()) {
            lookInto(waiting.pop());
        }
    }

    public static void main(String[] args) throws IllegalAccessException {
        LevelingNetwork x = new LevelingNetwork();
        // the output text finds its length, so that its builder does not grow later on
        x.addBenchmark();
        x.addBenchmark();
        x.addLine(0, 1, -9999, 50);
        x.renderLine(0);
        RoomTest before = new RoomTest(x);
        CHECK.due("objects: " + before.met.size(), before.met.size() <= MOST_OBJECTS, true);
        CHECK.due("fields and elements: " + before.elements, before.elements <= MOST_ELEMENTS, true);
        CHECK.due("the survey was found", before.met.size() > 100, true);
        beBusy(x);
        RoomTest after = new RoomTest(x);
        CHECK.due("objects after " + MOST_CALLS + " calls", after.met.size(), before.met.size());
        CHECK.due("fields and elements after " + MOST_CALLS + " calls", after.elements, before.elements);
        CHECK.end();
    }

    private void meet(Object object) {
        if (object != null && met.add(object)) {
            waiting.push(object);
        }
    }

    private void lookInto(Object object) throws IllegalAccessException {
        if (object.getClass().isArray()) {
            elements += Array.getLength(object);
            if (object instanceof Object[] row) {
                for (Object element : row) {
                    meet(element);
                }
            }
        } else if (object instanceof StringBuilder text) {
            elements += text.capacity();
        } else if (object.getClass().getName().startsWith("LevelingNetwork")) {
            lookIntoFields(object);
        }
    }

    private void lookIntoFields(Object object) throws IllegalAccessException {
        for (Field field : object.getClass().getDeclaredFields()) {
            if (!Modifier.isStatic(field.getModifiers())) {
                elements++;
                field.setAccessible(true);
                if (!field.getType().isPrimitive()) {
                    meet(field.get(object));
                }
            }
        }
    }

    /** Changes of all kinds, refused ones among them, a snapshot, undo and drawings; four calls were made before. */
    private static void beBusy(LevelingNetwork x) {
        int calls = 4;
        for (int i = 0; calls < MOST_CALLS; i++, calls++) {
            try {
                call(x, i);
            } catch (RuntimeException e) {
                CHECK.due("call " + i, e.getStackTrace()[0].getClassName().startsWith("LevelingNetwork"), true);
            }
        }
    }

    private static void call(LevelingNetwork x, int step) {
        int number = step / 16;
        switch (step % 16) {
            case 0 -> x.addBenchmark();
            case 1, 2 -> x.addLine(number % 10, (number + step) % 10, number, 1 + number % 50);
            case 3 -> x.addBackwardRun(number, -number);
            case 4 -> x.fix(number % 5, 1000 * number);
            case 5 -> x.addProfile(number % 7);
            case 6 -> x.addStation(number % 4, 3 * number, number);
            case 7 -> x.save();
            case 8 -> x.shareMisclosure(number);
            case 9 -> x.type("reset;".charAt(number % 6));
            case 10 -> x.renderLine(number);
            case 11 -> x.benchmarkByHeight(number);
            case 12 -> x.isConsistent();
            case 13 -> x.undo();
            case 14 -> x.runScript();
            default -> x.restore();
        }
    }
}
