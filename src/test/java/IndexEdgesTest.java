import java.util.Map;
import java.util.TreeMap;
import java.util.function.ObjIntConsumer;

/**
 * Each call with an index of a benchmark, a line or a profile refuses the indices next to those that are there and
 * the farthest ones, also if its other arguments or the state are wrong, and changes nothing.
 */
public final class IndexEdgesTest {
    private static final Check CHECK = new Check("IndexEdgesTest");
    private static final Class<IndexOutOfBoundsException> INDEX = IndexOutOfBoundsException.class;
    private static final Scene[] SCENES = {Scene.EMPTY, Scene.PARTLY, Scene.FULL};

    private IndexEdgesTest() {
    }

    public static void main(String[] args) {
        for (Scene scene : SCENES) {
            LevelingNetwork x = scene.make();
            refuse(scene, ofBenchmark(), x.benchmarkCount());
            refuse(scene, ofLine(), x.lineCount());
            refuse(scene, ofProfile(), x.profileCount());
        }
        ordinaryIndices();
        CHECK.end();
    }

    private static void refuse(Scene scene, Map<String, ObjIntConsumer<LevelingNetwork>> calls, int count) {
        for (Map.Entry<String, ObjIntConsumer<LevelingNetwork>> call : calls.entrySet()) {
            for (int index : Scene.outside(count)) {
                String told = call.getKey().replace("_", Integer.toString(index));
                scene.refuses(CHECK, told, INDEX, x -> call.getValue().accept(x, index));
            }
        }
    }

    private static Map<String, ObjIntConsumer<LevelingNetwork>> ofBenchmark() {
        Map<String, ObjIntConsumer<LevelingNetwork>> calls = new TreeMap<>();
        calls.put("promise 3: fix(_, 0)", (x, i) -> x.fix(i, 0));
        calls.put("promise 3: fix(_, 100000)", (x, i) -> x.fix(i, 100000));
        calls.put("promise 4: release(_)", (x, i) -> x.release(i));
        calls.put("promise 5: addLine(_, 0, 0, 1)", (x, i) -> x.addLine(i, 0, 0, 1));
        calls.put("promise 5: addLine(0, _, 0, 1)", (x, i) -> x.addLine(0, i, 0, 1));
        calls.put("promise 5: addLine(_, _, 0, 1)", (x, i) -> x.addLine(i, i, 0, 1));
        calls.put("promise 5: addLine(0, _, 10000, 0)", (x, i) -> x.addLine(0, i, 10000, 0));
        calls.put("promise 11: addProfile(_)", (x, i) -> x.addProfile(i));
        calls.put("promise 15: isFixed(_)", (x, i) -> x.isFixed(i));
        calls.put("promise 16: hasHeight(_)", (x, i) -> x.hasHeight(i));
        calls.put("promise 17: height(_)", (x, i) -> x.height(i));
        calls.put("promise 18: heightByRounds(_)", (x, i) -> x.heightByRounds(i));
        calls.put("promise 19: closingError(_)", (x, i) -> x.closingError(i));
        calls.put("promise 20: datum(_)", (x, i) -> x.datum(i));
        calls.put("promise 56: renderBenchmark(_)", (x, i) -> x.renderBenchmark(i));
        return calls;
    }

    private static Map<String, ObjIntConsumer<LevelingNetwork>> ofLine() {
        Map<String, ObjIntConsumer<LevelingNetwork>> calls = new TreeMap<>();
        calls.put("promise 6: addBackwardRun(_, 0)", (x, i) -> x.addBackwardRun(i, 0));
        calls.put("promise 6: addBackwardRun(_, 10000)", (x, i) -> x.addBackwardRun(i, 10000));
        calls.put("promise 7: exclude(_)", (x, i) -> x.exclude(i));
        calls.put("promise 8: include(_)", (x, i) -> x.include(i));
        calls.put("promise 9: shareMisclosure(_)", (x, i) -> x.shareMisclosure(i));
        calls.put("promise 23: firstOf(_)", (x, i) -> x.firstOf(i));
        calls.put("promise 24: secondOf(_)", (x, i) -> x.secondOf(i));
        calls.put("promise 25: lengthOf(_)", (x, i) -> x.lengthOf(i));
        calls.put("promise 26: levelledDifference(_)", (x, i) -> x.levelledDifference(i));
        calls.put("promise 27: correction(_)", (x, i) -> x.correction(i));
        calls.put("promise 28: discrepancy(_)", (x, i) -> x.discrepancy(i));
        calls.put("promise 29: isExcluded(_)", (x, i) -> x.isExcluded(i));
        calls.put("promise 30: isUsable(_)", (x, i) -> x.isUsable(i));
        calls.put("promise 33: isInForest(_)", (x, i) -> x.isInForest(i));
        calls.put("promise 39: loopSize(_)", (x, i) -> x.loopSize(i));
        calls.put("promise 40: loopLength(_)", (x, i) -> x.loopLength(i));
        calls.put("promise 41: misclosure(_)", (x, i) -> x.misclosure(i));
        calls.put("promise 42: misclosureByLevels(_)", (x, i) -> x.misclosureByLevels(i));
        calls.put("promise 43: part(_, 0)", (x, i) -> x.part(i, 0));
        calls.put("promise 43: part(0, _), of no loop", (x, i) -> x.part(0, i));
        calls.put("promise 43: part(.., _), of the first loop", (x, i) -> x.part(firstLoop(x), i));
        calls.put("promise 43: part(_, _)", (x, i) -> x.part(i, i));
        calls.put("promise 55: renderLine(_)", (x, i) -> x.renderLine(i));
        return calls;
    }

    private static int firstLoop(LevelingNetwork x) {
        return x.loopCount() > 0 ? x.loopAt(0) : 0;
    }

    private static Map<String, ObjIntConsumer<LevelingNetwork>> ofProfile() {
        Map<String, ObjIntConsumer<LevelingNetwork>> calls = new TreeMap<>();
        calls.put("promise 12: addStation(_, 99, 0)", (x, i) -> x.addStation(i, 99, 0));
        calls.put("promise 12: addStation(_, 100, 1000)", (x, i) -> x.addStation(i, 100, 1000));
        calls.put("promise 45: stationCount(_)", (x, i) -> x.stationCount(i));
        calls.put("promise 47: ground(_, 20)", (x, i) -> x.ground(i, 20));
        calls.put("promise 47: ground(_, -1)", (x, i) -> x.ground(i, -1));
        calls.put("promise 48: wetColumns(_)", (x, i) -> x.wetColumns(i));
        calls.put("promise 49: wetColumnsBySegments(_)", (x, i) -> x.wetColumnsBySegments(i));
        calls.put("promise 50: shores(_)", (x, i) -> x.shores(i));
        calls.put("promise 51: lowestColumn(_)", (x, i) -> x.lowestColumn(i));
        return calls;
    }

    /** The least and the greatest index that are there are not refused for their sake. */
    private static void ordinaryIndices() {
        for (Scene scene : new Scene[] {Scene.PARTLY, Scene.FULL}) {
            LevelingNetwork x = scene.make();
            accept(scene, ofBenchmark(), x.benchmarkCount());
            accept(scene, ofLine(), x.lineCount());
            accept(scene, ofProfile(), x.profileCount());
        }
    }

    private static void accept(Scene scene, Map<String, ObjIntConsumer<LevelingNetwork>> calls, int count) {
        for (Map.Entry<String, ObjIntConsumer<LevelingNetwork>> call : calls.entrySet()) {
            for (int index : new int[] {0, count - 1}) {
                String told = call.getKey().replace("_", Integer.toString(index));
                CHECK.due(told + " refused the index", refusesIndex(scene.make(), call.getValue(), index), false);
            }
        }
    }

    private static boolean refusesIndex(LevelingNetwork x, ObjIntConsumer<LevelingNetwork> call, int index) {
        try {
            call.accept(x, index);
            return false;
        } catch (IndexOutOfBoundsException e) {
            return true;
        } catch (RuntimeException e) {
            return false;
        }
    }
}
