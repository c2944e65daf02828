import java.util.ArrayDeque;
import java.util.ArrayList;
import java.util.Collections;
import java.util.Comparator;
import java.util.Deque;
import java.util.List;
import java.util.NoSuchElementException;
import java.util.TreeSet;
import java.util.regex.Matcher;
import java.util.regex.Pattern;

/**
 * The document a second time, written from its words with the Java library and without a thought of speed: the
 * random runs compare the program with it. Methods that find something in a second way answer as the first way.
 */
public final class Model {
    private static final String VALUE = "-?[0-9]{1,5}";
    private static final String NUMBER = "[0-9]{1,2}";
    private static final String COMMAND = "(?:point|fix [0-9] " + VALUE + "|free [0-9]|line [0-9][0-9] " + VALUE + "/" + NUMBER
            + "|back " + NUMBER + " " + VALUE + "|(?:exclude |include |share )" + NUMBER + "|reset|profile [0-9]|station [0-9] "
            + NUMBER + ":" + VALUE + "|water " + VALUE + ")";
    private static final Pattern SCRIPT = Pattern.compile(COMMAND + "(?:;" + COMMAND + ")*");

    private static final class Line {
        int first;
        int second;
        int forward;
        int length;
        Integer backward;
        boolean excluded;
        int correction;

        Line copy() {
            Line line = new Line();
            line.first = first;
            line.second = second;
            line.forward = forward;
            line.length = length;
            line.backward = backward;
            line.excluded = excluded;
            line.correction = correction;
            return line;
        }
    }

    private static final class Profile {
        int benchmark;
        List<int[]> stations = new ArrayList<>();
    }

    private static final class State {
        List<Integer> heights = new ArrayList<>();
        List<Line> lines = new ArrayList<>();
        List<Profile> profiles = new ArrayList<>();
        int water;

        State copy() {
            State copy = new State();
            copy.heights.addAll(heights);
            for (Line line : lines) {
                copy.lines.add(line.copy());
            }
            for (Profile profile : profiles) {
                Profile other = new Profile();
                other.benchmark = profile.benchmark;
                other.stations.addAll(profile.stations);
                copy.profiles.add(other);
            }
            copy.water = water;
            return copy;
        }
    }

    private State now = new State();
    private State saved;
    private final Deque<State> past = new ArrayDeque<>();
    private boolean inScript;
    private String output = "";
    private String script = "";
    private Integer errorAt;
    private Integer failedAt;

    private void remember() {
        if (!inScript) {
            past.push(now.copy());
            if (past.size() > 8) {
                past.removeLast();
            }
        }
    }

    private static void index(boolean right) {
        if (!right) {
            throw new IndexOutOfBoundsException();
        }
    }

    private static void argument(boolean right) {
        if (!right) {
            throw new IllegalArgumentException();
        }
    }

    private static void state(boolean right) {
        if (!right) {
            throw new IllegalStateException();
        }
    }

    private static void element(boolean right) {
        if (!right) {
            throw new NoSuchElementException();
        }
    }

    private Line line(int line) {
        index(line >= 0 && line < now.lines.size());
        return now.lines.get(line);
    }

    private Profile profile(int profile) {
        index(profile >= 0 && profile < now.profiles.size());
        return now.profiles.get(profile);
    }

    private void benchmark(int benchmark) {
        index(benchmark >= 0 && benchmark < now.heights.size());
    }

    public int addBenchmark() {
        state(now.heights.size() < 10);
        remember();
        now.heights.add(null);
        return now.heights.size() - 1;
    }

    public int fix(int benchmark, int height) {
        benchmark(benchmark);
        argument(Math.abs((long) height) <= 99999);
        remember();
        now.heights.set(benchmark, height);
        return (int) now.heights.stream().filter(h -> h != null).count();
    }

    public int release(int benchmark) {
        benchmark(benchmark);
        state(now.heights.get(benchmark) != null);
        remember();
        return now.heights.set(benchmark, null);
    }

    public int addLine(int first, int second, int forward, int length) {
        benchmark(first);
        benchmark(second);
        argument(first != second);
        argument(Math.abs((long) forward) <= 9999);
        argument(1 <= length && length <= 50);
        state(now.lines.size() < 16);
        remember();
        Line line = new Line();
        line.first = first;
        line.second = second;
        line.forward = forward;
        line.length = length;
        now.lines.add(line);
        return now.lines.size() - 1;
    }

    public int addBackwardRun(int line, int backward) {
        line(line);
        argument(Math.abs((long) backward) <= 9999);
        state(line(line).backward == null);
        remember();
        line(line).backward = backward;
        return discrepancy(line);
    }

    public int exclude(int line) {
        state(!line(line).excluded);
        remember();
        line(line).excluded = true;
        return usable().size();
    }

    public int include(int line) {
        state(line(line).excluded);
        remember();
        line(line).excluded = false;
        return usable().size();
    }

    public int shareMisclosure(int line) {
        int misclosure = misclosure(line);
        if (Math.abs(misclosure) > tolerance(loopLength(line))) {
            throw new UnsupportedOperationException();
        }
        remember();
        int[] parts = parts(line);
        for (int[] step : loop(line)) {
            line(step[0]).correction -= Integer.signum(misclosure) * step[1] * parts[step[0]];
        }
        return misclosure;
    }

    public int resetCorrections() {
        remember();
        int count = (int) now.lines.stream().filter(l -> l.correction != 0).count();
        now.lines.forEach(l -> l.correction = 0);
        return count;
    }

    public int addProfile(int benchmark) {
        benchmark(benchmark);
        state(now.profiles.size() < 4);
        remember();
        Profile profile = new Profile();
        profile.benchmark = benchmark;
        now.profiles.add(profile);
        return now.profiles.size() - 1;
    }

    public int addStation(int profile, int distance, int offset) {
        List<int[]> stations = profile(profile).stations;
        argument(0 <= distance && distance <= 99);
        argument(Math.abs((long) offset) <= 999);
        state(stations.size() < 10);
        state(stations.isEmpty() || stations.get(stations.size() - 1)[0] < distance);
        remember();
        stations.add(new int[] {distance, offset});
        return stations.size();
    }

    public int setWaterLevel(int level) {
        argument(Math.abs((long) level) <= 99999);
        remember();
        int previous = now.water;
        now.water = level;
        return previous;
    }

    public int benchmarkCount() {
        return now.heights.size();
    }

    public boolean isFixed(int benchmark) {
        benchmark(benchmark);
        return now.heights.get(benchmark) != null;
    }

    public boolean hasHeight(int benchmark) {
        benchmark(benchmark);
        return carried(benchmark) != null;
    }

    public int height(int benchmark) {
        element(hasHeight(benchmark));
        return isFixed(benchmark) ? now.heights.get(benchmark) : carried(benchmark);
    }

    public int heightByRounds(int benchmark) {
        return height(benchmark);
    }

    public int closingError(int benchmark) {
        element(isFixed(benchmark));
        return carried(benchmark) - now.heights.get(benchmark);
    }

    public int datum(int benchmark) {
        benchmark(benchmark);
        for (int i = 0; i < benchmarkCount(); i++) {
            if (isFixed(i) && way(i, benchmark, forest()) != null) {
                return i;
            }
        }
        throw new NoSuchElementException();
    }

    private Integer carried(int benchmark) {
        for (int i = 0; i < benchmarkCount(); i++) {
            List<int[]> way = way(i, benchmark, forest());
            if (isFixed(i) && way != null) {
                return now.heights.get(i) + sum(way);
            }
        }
        return null;
    }

    public int benchmarkByHeight(int rank) {
        List<Integer> ranking = new ArrayList<>();
        for (int i = 0; i < benchmarkCount(); i++) {
            if (hasHeight(i)) {
                ranking.add(i);
            }
        }
        ranking.sort(Comparator.comparing(i -> -height(i)));
        element(rank >= 0 && rank < ranking.size());
        return ranking.get(rank);
    }

    public int lineCount() {
        return now.lines.size();
    }

    public int firstOf(int line) {
        return line(line).first;
    }

    public int secondOf(int line) {
        return line(line).second;
    }

    public int lengthOf(int line) {
        return line(line).length;
    }

    public int levelledDifference(int line) {
        Line l = line(line);
        return l.backward == null ? l.forward : (int) Math.floor((l.forward - l.backward) / 2.0);
    }

    public int correction(int line) {
        return line(line).correction;
    }

    public int discrepancy(int line) {
        element(line(line).backward != null);
        return line(line).forward + line(line).backward;
    }

    public boolean isExcluded(int line) {
        return line(line).excluded;
    }

    public boolean isUsable(int line) {
        Line l = line(line);
        return !l.excluded && (l.backward == null || Math.abs(l.forward + l.backward) <= tolerance(l.length));
    }

    public int tolerance(int length) {
        argument(0 <= length && length <= 800);
        return (int) Math.floor(Math.sqrt(9.0 * length));
    }

    public int lineByDiscrepancy(int rank) {
        List<Integer> ranking = new ArrayList<>();
        for (int i = 0; i < lineCount(); i++) {
            if (line(i).backward != null) {
                ranking.add(i);
            }
        }
        ranking.sort(Comparator.comparing(i -> -Math.abs(discrepancy(i))));
        element(rank >= 0 && rank < ranking.size());
        return ranking.get(rank);
    }

    private List<Integer> usable() {
        List<Integer> usable = new ArrayList<>();
        for (int i = 0; i < lineCount(); i++) {
            if (isUsable(i)) {
                usable.add(i);
            }
        }
        return usable;
    }

    private TreeSet<Integer> forest() {
        List<Integer> order = usable();
        order.sort(Comparator.comparing(this::lengthOf));
        TreeSet<Integer> forest = new TreeSet<>();
        for (int i : order) {
            if (way(firstOf(i), secondOf(i), forest) == null) {
                forest.add(i);
            }
        }
        return forest;
    }

    /** The lines and their directions, or null; a line that was passed is left out of what remains. */
    private List<int[]> way(int from, int to, TreeSet<Integer> among) {
        if (from == to) {
            return new ArrayList<>();
        }
        for (int i : among) {
            if (firstOf(i) == from || secondOf(i) == from) {
                boolean forwards = firstOf(i) == from;
                TreeSet<Integer> rest = new TreeSet<>(among);
                rest.remove(i);
                List<int[]> way = way(forwards ? secondOf(i) : firstOf(i), to, rest);
                if (way != null) {
                    way.add(0, new int[] {i, forwards ? 1 : -1});
                    return way;
                }
            }
        }
        return null;
    }

    private int sum(List<int[]> way) {
        return way.stream().mapToInt(step -> step[1] * corrected(step[0])).sum();
    }

    private int corrected(int line) {
        return levelledDifference(line) + correction(line);
    }

    public boolean isInForest(int line) {
        line(line);
        return forest().contains(line);
    }

    public int forestLength() {
        return forest().stream().mapToInt(this::lengthOf).sum();
    }

    public int forestLengthByGrowing() {
        return forestLength();
    }

    public int treeCount() {
        return benchmarkCount() - forest().size();
    }

    private List<Integer> closing() {
        List<Integer> closing = usable();
        closing.removeAll(forest());
        return closing;
    }

    public int loopCount() {
        return closing().size();
    }

    public int loopAt(int position) {
        element(position >= 0 && position < closing().size());
        return closing().get(position);
    }

    private List<int[]> loop(int line) {
        line(line);
        element(closing().contains(line));
        List<int[]> loop = way(secondOf(line), firstOf(line), forest());
        loop.add(new int[] {line, 1});
        return loop;
    }

    public int loopSize(int line) {
        return loop(line).size();
    }

    public int loopLength(int line) {
        return loop(line).stream().mapToInt(step -> lengthOf(step[0])).sum();
    }

    public int misclosure(int line) {
        return sum(loop(line));
    }

    public int misclosureByLevels(int line) {
        return misclosure(line);
    }

    private int[] parts(int loop) {
        int amount = Math.abs(misclosure(loop));
        int total = loopLength(loop);
        int[] parts = new int[16];
        int missing = amount;
        List<Integer> members = new ArrayList<>();
        for (int[] step : loop(loop)) {
            members.add(step[0]);
            parts[step[0]] = amount * lengthOf(step[0]) / total;
            missing -= parts[step[0]];
        }
        Collections.sort(members);
        members.sort(Comparator.comparing(i -> -(amount * lengthOf(i) % total)));
        for (int i = 0; i < missing; i++) {
            parts[members.get(i)]++;
        }
        return parts;
    }

    public int part(int loop, int line) {
        line(loop);
        line(line);
        return parts(loop)[line];
    }

    public int profileCount() {
        return now.profiles.size();
    }

    public int stationCount(int profile) {
        return profile(profile).stations.size();
    }

    public int waterLevel() {
        return now.water;
    }

    /** The offsets of all columns from the first one on. */
    private List<Integer> offsets(int profile) {
        List<int[]> stations = profile(profile).stations;
        List<Integer> offsets = new ArrayList<>();
        for (int i = 0; i < stations.size(); i++) {
            int[] a = stations.get(i);
            offsets.add(a[1]);
            if (i + 1 < stations.size()) {
                int[] b = stations.get(i + 1);
                for (int column = a[0] + 1; column < b[0]; column++) {
                    offsets.add(a[1] + (int) Math.floor((double) ((b[1] - a[1]) * (column - a[0])) / (b[0] - a[0])));
                }
            }
        }
        return offsets;
    }

    private int start(int profile) {
        return profile(profile).stations.isEmpty() ? 0 : profile(profile).stations.get(0)[0];
    }

    public int ground(int profile, int column) {
        profile(profile);
        long place = (long) column - start(profile);
        argument(place >= 0 && place < offsets(profile).size());
        return height(profile(profile).benchmark) + offsets(profile).get((int) place);
    }

    private List<Boolean> wet(int profile) {
        int height = height(profile(profile).benchmark);
        List<Boolean> wet = new ArrayList<>();
        offsets(profile).forEach(offset -> wet.add(height + offset < now.water));
        return wet;
    }

    public int wetColumns(int profile) {
        return Collections.frequency(wet(profile), true);
    }

    public int wetColumnsBySegments(int profile) {
        return wetColumns(profile);
    }

    public int shores(int profile) {
        List<Boolean> wet = wet(profile);
        int count = 0;
        for (int i = 1; i < wet.size(); i++) {
            count += wet.get(i).equals(wet.get(i - 1)) ? 0 : 1;
        }
        return count;
    }

    public int lowestColumn(int profile) {
        List<Integer> offsets = offsets(profile);
        element(!offsets.isEmpty());
        return start(profile) + offsets.indexOf(Collections.min(offsets));
    }

    public double meanLength() {
        if (usable().isEmpty()) {
            throw new ArithmeticException();
        }
        return (double) usable().stream().mapToInt(this::lengthOf).sum() / (double) usable().size();
    }

    public float usableShare() {
        if (lineCount() == 0) {
            throw new ArithmeticException();
        }
        return (float) usable().size() / (float) lineCount();
    }

    public boolean isConsistent() {
        return true;
    }

    public int renderLine(int line) {
        line(line);
        String mark = !isUsable(line) ? "x" : isInForest(line) ? "*" : "o";
        output = line + ":" + firstOf(line) + ">" + secondOf(line) + " " + corrected(line) + "/" + lengthOf(line) + mark;
        return output.length();
    }

    public int renderBenchmark(int benchmark) {
        benchmark(benchmark);
        String height = hasHeight(benchmark) ? "" + height(benchmark) : "?";
        output = benchmark + "=" + height + (isFixed(benchmark) ? "!" : "");
        return output.length();
    }

    public char outputAt(int index) {
        index(index >= 0 && index < output.length());
        return output.charAt(index);
    }

    public int type(char character) {
        argument(character >= 32 && character <= 126);
        state(script.length() < 60);
        script += character;
        return script.length();
    }

    public int runScript() {
        String text = script;
        script = "";
        if (!isScript(text)) {
            errorAt = errorPositionOf(text);
            throw new IllegalArgumentException();
        }
        State before = now.copy();
        String[] commands = text.split(";");
        inScript = true;
        for (int i = 0; i < commands.length; i++) {
            try {
                execute(commands[i]);
            } catch (RuntimeException e) {
                now = before;
                failedAt = i;
                inScript = false;
                throw new IllegalStateException();
            }
        }
        inScript = false;
        State after = now;
        now = before;
        remember();
        now = after;
        return commands.length;
    }

    static boolean isScript(String text) {
        return SCRIPT.matcher(text).matches();
    }

    static int errorPositionOf(String text) {
        int position = 0;
        while (position < text.length() && canGoOn(text.substring(0, position + 1))) {
            position++;
        }
        return position;
    }

    private static boolean canGoOn(String start) {
        Matcher matcher = SCRIPT.matcher(start);
        return matcher.matches() || matcher.hitEnd();
    }

    private void execute(String command) {
        String word = command.replaceAll(" .*", "");
        String rest = command.substring(word.length());
        if (word.equals("line")) {
            rest = rest.replaceFirst("([0-9])([0-9])", "$1 $2");
        }
        Matcher matcher = Pattern.compile("-?[0-9]+").matcher(rest);
        int[] a = new int[4];
        for (int i = 0; matcher.find(); i++) {
            a[i] = Integer.parseInt(matcher.group());
        }
        switch (word) {
            case "point" -> addBenchmark();
            case "fix" -> fix(a[0], a[1]);
            case "free" -> release(a[0]);
            case "line" -> addLine(a[0], a[1], a[2], a[3]);
            case "back" -> addBackwardRun(a[0], a[1]);
            case "exclude" -> exclude(a[0]);
            case "include" -> include(a[0]);
            case "share" -> shareMisclosure(a[0]);
            case "reset" -> resetCorrections();
            case "profile" -> addProfile(a[0]);
            case "station" -> addStation(a[0], a[1], a[2]);
            case "water" -> setWaterLevel(a[0]);
            default -> throw new AssertionError(word);
        }
    }

    public int errorPosition() {
        element(errorAt != null);
        return errorAt;
    }

    public int failedCommand() {
        element(failedAt != null);
        return failedAt;
    }

    public int undo() {
        element(!past.isEmpty());
        now = past.pop();
        return past.size();
    }

    public int save() {
        saved = now.copy();
        return lineCount();
    }

    public int restore() {
        state(saved != null);
        now = saved.copy();
        past.clear();
        return lineCount();
    }
}
