import java.util.ArrayList;
import java.util.List;
import java.util.function.Function;
import java.util.function.Supplier;

/**
 * All that can be told of a network by asking it. A fresh network, made in the same way, is taken for each kind of
 * question, so that no object comes near its 512th call and questions that change something disturb no others.
 */
final class Look {
    private static final int MOST_UNDOS = 8;
    private final Supplier<LevelingNetwork> maker;
    private final List<String> seen = new ArrayList<>();
    private LevelingNetwork x;

    private Look(Supplier<LevelingNetwork> maker) {
        this.maker = maker;
    }

    /** Everything: what a script leaves alone, the script buffer, the error position and the failed command. */
    static List<String> at(Supplier<LevelingNetwork> maker) {
        Look look = new Look(maker);
        look.seen.addAll(withoutScripts(maker));
        look.lookAtScripts();
        return look.seen;
    }

    /** The survey, the output text, and what undo and restore lead to. */
    static List<String> withoutScripts(Supplier<LevelingNetwork> maker) {
        Look look = new Look(maker);
        look.seen.addAll(survey(maker));
        look.lookAtOutput();
        look.lookAtPast();
        look.lookAtSnapshot();
        return look.seen;
    }

    /** What undo and the snapshot cover, as it is now. */
    static List<String> survey(Supplier<LevelingNetwork> maker) {
        Look look = new Look(maker);
        look.lookAtTotals();
        look.lookAtBenchmarks();
        look.lookAtLines();
        look.lookAtParts();
        look.lookAtProfiles();
        return look.seen;
    }

    /** The first line that is not the same in both, or an empty text. */
    static String difference(List<String> got, List<String> want) {
        for (int i = 0; i < Math.max(got.size(), want.size()); i++) {
            String one = i < got.size() ? got.get(i) : "nothing";
            String other = i < want.size() ? want.get(i) : "nothing";
            if (!one.equals(other)) {
                return one + " instead of " + other;
            }
        }
        return "";
    }

    private void fresh() {
        x = maker.get();
    }

    /** Tells whether there was an answer. */
    private boolean ask(String name, Function<LevelingNetwork, Object> question) {
        try {
            seen.add(name + ": " + question.apply(x));
            return true;
        } catch (RuntimeException e) {
            seen.add(name + ": throws " + e.getClass().getSimpleName());
            return false;
        }
    }

    private void lookAtTotals() {
        fresh();
        ask("benchmarkCount", LevelingNetwork::benchmarkCount);
        ask("lineCount", LevelingNetwork::lineCount);
        ask("profileCount", LevelingNetwork::profileCount);
        ask("waterLevel", LevelingNetwork::waterLevel);
        ask("forestLength", LevelingNetwork::forestLength);
        ask("forestLengthByGrowing", LevelingNetwork::forestLengthByGrowing);
        ask("treeCount", LevelingNetwork::treeCount);
        ask("loopCount", LevelingNetwork::loopCount);
        ask("meanLength", LevelingNetwork::meanLength);
        ask("usableShare", LevelingNetwork::usableShare);
        ask("isConsistent", LevelingNetwork::isConsistent);
    }

    private void lookAtBenchmarks() {
        fresh();
        for (int i = 0; i < x.benchmarkCount(); i++) {
            int benchmark = i;
            ask("isFixed " + i, y -> y.isFixed(benchmark));
            ask("hasHeight " + i, y -> y.hasHeight(benchmark));
            ask("height " + i, y -> y.height(benchmark));
            ask("heightByRounds " + i, y -> y.heightByRounds(benchmark));
            ask("closingError " + i, y -> y.closingError(benchmark));
            ask("datum " + i, y -> y.datum(benchmark));
            ask("benchmarkByHeight " + i, y -> y.benchmarkByHeight(benchmark));
        }
    }

    private void lookAtLines() {
        fresh();
        for (int i = 0; i < x.lineCount(); i++) {
            int line = i;
            ask("firstOf " + i, y -> y.firstOf(line));
            ask("secondOf " + i, y -> y.secondOf(line));
            ask("lengthOf " + i, y -> y.lengthOf(line));
            ask("levelledDifference " + i, y -> y.levelledDifference(line));
            ask("correction " + i, y -> y.correction(line));
            ask("discrepancy " + i, y -> y.discrepancy(line));
            ask("isExcluded " + i, y -> y.isExcluded(line));
            ask("isUsable " + i, y -> y.isUsable(line));
            ask("lineByDiscrepancy " + i, y -> y.lineByDiscrepancy(line));
            ask("isInForest " + i, y -> y.isInForest(line));
            ask("loopAt " + i, y -> y.loopAt(line));
            ask("loopSize " + i, y -> y.loopSize(line));
            ask("loopLength " + i, y -> y.loopLength(line));
            ask("misclosure " + i, y -> y.misclosure(line));
            ask("misclosureByLevels " + i, y -> y.misclosureByLevels(line));
        }
    }

    private void lookAtParts() {
        fresh();
        int loops = x.loopCount();
        for (int i = 0; i < loops; i++) {
            fresh();
            int loop = x.loopAt(i);
            for (int j = 0; j < x.lineCount(); j++) {
                int line = j;
                ask("part " + loop + " " + j, y -> y.part(loop, line));
            }
        }
    }

    private void lookAtProfiles() {
        fresh();
        int profiles = x.profileCount();
        for (int i = 0; i < profiles; i++) {
            int profile = i;
            fresh();
            ask("stationCount " + i, y -> y.stationCount(profile));
            ask("wetColumns " + i, y -> y.wetColumns(profile));
            ask("wetColumnsBySegments " + i, y -> y.wetColumnsBySegments(profile));
            ask("shores " + i, y -> y.shores(profile));
            ask("lowestColumn " + i, y -> y.lowestColumn(profile));
            for (int j = 0; j < 100; j++) {
                int column = j;
                ask("ground " + i + " " + j, y -> y.ground(profile, column));
            }
        }
    }

    private void lookAtOutput() {
        fresh();
        for (int i = 0; i < 24; i++) {
            int index = i;
            ask("outputAt " + i, y -> y.outputAt(index));
        }
    }

    private void lookAtScripts() {
        fresh();
        ask("errorPosition", LevelingNetwork::errorPosition);
        ask("failedCommand", LevelingNetwork::failedCommand);
        ask("type", y -> y.type(';'));
        fresh();
        ask("runScript", LevelingNetwork::runScript);
        ask("errorPosition of the buffer", LevelingNetwork::errorPosition);
        ask("waterLevel by the buffer", LevelingNetwork::waterLevel);
    }

    private void lookAtPast() {
        boolean more = true;
        for (int i = 1; more && i <= MOST_UNDOS + 1; i++) {
            int undos = i;
            x = undone(undos - 1);
            more = ask("undo " + undos, LevelingNetwork::undo);
            if (more) {
                seen.addAll(survey(() -> undone(undos)));
            }
        }
    }

    private LevelingNetwork undone(int undos) {
        LevelingNetwork y = maker.get();
        for (int i = 0; i < undos; i++) {
            y.undo();
        }
        return y;
    }

    private void lookAtSnapshot() {
        fresh();
        if (ask("restore", LevelingNetwork::restore)) {
            seen.addAll(survey(this::restored));
        }
    }

    private LevelingNetwork restored() {
        LevelingNetwork y = maker.get();
        y.restore();
        return y;
    }
}
