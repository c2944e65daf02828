import java.util.NoSuchElementException;

/** A levelling network for a survey along a river, as the document (../shared/DOC.md) promises it. */
public final class LevelingNetwork {
    private static final int MOST_BENCHMARKS = 10;
    private static final int MOST_LINES = 16;
    private static final int MOST_PROFILES = 4;
    private static final int MOST_STATIONS = 10;
    private static final int MOST_CHARACTERS = 60;
    /** The shortest commands have 5 characters, and all but one of them need a semicolon. */
    private static final int MOST_COMMANDS = 10;
    private static final int MOST_ARGUMENTS = 4;
    private static final int MOST_UNDOS = 8;

    private static final int GREATEST_HEIGHT = 99999;
    private static final int GREATEST_RUN = 9999;
    private static final int GREATEST_LENGTH = 50;
    private static final int GREATEST_DISTANCE = 99;
    private static final int GREATEST_OFFSET = 999;
    private static final int GREATEST_LENGTH_WITH_TOLERANCE = 800;
    private static final int GREATEST_TOLERANCE = 84;

    private static final char LEAST_CHARACTER = 32;
    private static final char GREATEST_CHARACTER = 126;
    /** Stands behind the last character of a script; it cannot be typed. */
    private static final char END = 0;

    private static final int NONE = -1;
    private static final Kind[] KINDS = Kind.values();

    private final Survey survey;
    private final Survey before;
    private final Survey snapshot;
    private boolean hasSnapshot;
    private final History history;
    private final Forest forest;
    private final Way loopWay;
    private final Sharing sharing;
    private final Heights heights;
    private final Bank bank;
    private final Changes changes;
    private final Script script;
    private final StringBuilder output;
    private int errorAt;
    private int failedAt;

    public LevelingNetwork() {
        survey = new Survey();
        before = new Survey();
        snapshot = new Survey();
        history = new History();
        forest = new Forest(survey);
        loopWay = new Way(survey, forest);
        sharing = new Sharing(survey);
        heights = new Heights(survey, forest);
        bank = new Bank(survey);
        changes = new Changes(survey, forest, loopWay, sharing);
        script = new Script();
        output = new StringBuilder();
        errorAt = NONE;
        failedAt = NONE;
    }

    // Changes

    public int addBenchmark() throws IllegalStateException {
        return change(Kind.POINT, 0, 0, 0, 0);
    }

    public int fix(int benchmark, int height) throws IndexOutOfBoundsException, IllegalArgumentException {
        return change(Kind.FIX, benchmark, height, 0, 0);
    }

    public int release(int benchmark) throws IndexOutOfBoundsException, IllegalStateException {
        return change(Kind.FREE, benchmark, 0, 0, 0);
    }

    public int addLine(int first, int second, int forward, int length)
            throws IndexOutOfBoundsException, IllegalArgumentException, IllegalStateException {
        return change(Kind.LINE, first, second, forward, length);
    }

    public int addBackwardRun(int line, int backward)
            throws IndexOutOfBoundsException, IllegalArgumentException, IllegalStateException {
        return change(Kind.BACK, line, backward, 0, 0);
    }

    public int exclude(int line) throws IndexOutOfBoundsException, IllegalStateException {
        return change(Kind.EXCLUDE, line, 0, 0, 0);
    }

    public int include(int line) throws IndexOutOfBoundsException, IllegalStateException {
        return change(Kind.INCLUDE, line, 0, 0, 0);
    }

    public int shareMisclosure(int line)
            throws IndexOutOfBoundsException, NoSuchElementException, UnsupportedOperationException {
        return change(Kind.SHARE, line, 0, 0, 0);
    }

    public int resetCorrections() {
        return change(Kind.RESET, 0, 0, 0, 0);
    }

    public int addProfile(int benchmark) throws IndexOutOfBoundsException, IllegalStateException {
        return change(Kind.PROFILE, benchmark, 0, 0, 0);
    }

    public int addStation(int profile, int distance, int offset)
            throws IndexOutOfBoundsException, IllegalArgumentException, IllegalStateException {
        return change(Kind.STATION, profile, distance, offset, 0);
    }

    public int setWaterLevel(int level) throws IllegalArgumentException {
        return change(Kind.WATER, level, 0, 0, 0);
    }

    // Benchmarks and heights

    public int benchmarkCount() {
        return survey.benchmarks;
    }

    public boolean isFixed(int benchmark) throws IndexOutOfBoundsException {
        requireBenchmark(benchmark);
        return survey.fixed[benchmark];
    }

    public boolean hasHeight(int benchmark) throws IndexOutOfBoundsException {
        requireBenchmark(benchmark);
        forest.find();
        return heights.exists(benchmark);
    }

    public int height(int benchmark) throws IndexOutOfBoundsException, NoSuchElementException {
        requireBenchmark(benchmark);
        requireHeight(benchmark);
        return heights.byWay(benchmark);
    }

    public int heightByRounds(int benchmark) throws IndexOutOfBoundsException, NoSuchElementException {
        requireBenchmark(benchmark);
        requireHeight(benchmark);
        return heights.byRounds(benchmark);
    }

    public int closingError(int benchmark) throws IndexOutOfBoundsException, NoSuchElementException {
        requireBenchmark(benchmark);
        if (!survey.fixed[benchmark]) {
            throw new NoSuchElementException("the benchmark is free");
        }
        forest.find();
        return heights.carriedFromDatum(benchmark) - survey.fixedHeight[benchmark];
    }

    public int datum(int benchmark) throws IndexOutOfBoundsException, NoSuchElementException {
        requireBenchmark(benchmark);
        forest.find();
        int found = heights.datumOf(benchmark);
        if (found == NONE) {
            throw new NoSuchElementException("the tree has no fixed benchmark");
        }
        return found;
    }

    public int benchmarkByHeight(int rank) throws NoSuchElementException {
        forest.find();
        int found = heights.atRank(rank);
        if (found == NONE) {
            throw new NoSuchElementException("there is no such rank");
        }
        return found;
    }

    // Lines

    public int lineCount() {
        return survey.lines;
    }

    public int firstOf(int line) throws IndexOutOfBoundsException {
        requireLine(line);
        return survey.first[line];
    }

    public int secondOf(int line) throws IndexOutOfBoundsException {
        requireLine(line);
        return survey.second[line];
    }

    public int lengthOf(int line) throws IndexOutOfBoundsException {
        requireLine(line);
        return survey.length[line];
    }

    public int levelledDifference(int line) throws IndexOutOfBoundsException {
        requireLine(line);
        return survey.levelled(line);
    }

    public int correction(int line) throws IndexOutOfBoundsException {
        requireLine(line);
        return survey.correction[line];
    }

    public int discrepancy(int line) throws IndexOutOfBoundsException, NoSuchElementException {
        requireLine(line);
        if (!survey.doubleRun[line]) {
            throw new NoSuchElementException("the line has no backward run");
        }
        return survey.sumOfRuns(line);
    }

    public boolean isExcluded(int line) throws IndexOutOfBoundsException {
        requireLine(line);
        return survey.excluded[line];
    }

    public boolean isUsable(int line) throws IndexOutOfBoundsException {
        requireLine(line);
        return survey.usable(line);
    }

    public int tolerance(int length) throws IllegalArgumentException {
        if (!within(length, 0, GREATEST_LENGTH_WITH_TOLERANCE)) {
            throw new IllegalArgumentException("the length is not between 0 and 800");
        }
        return toleranceFor(length);
    }

    public int lineByDiscrepancy(int rank) throws NoSuchElementException {
        int found = survey.lineAtRank(rank);
        if (found == NONE) {
            throw new NoSuchElementException("there is no such rank");
        }
        return found;
    }

    // Forest and loops

    public boolean isInForest(int line) throws IndexOutOfBoundsException {
        requireLine(line);
        forest.find();
        return forest.taken[line];
    }

    public int forestLength() {
        forest.find();
        return forest.takenLength();
    }

    public int forestLengthByGrowing() {
        forest.find();
        return forest.grownLength();
    }

    public int treeCount() {
        forest.find();
        return forest.trees();
    }

    public int loopCount() {
        forest.find();
        return forest.loops();
    }

    public int loopAt(int position) throws NoSuchElementException {
        forest.find();
        int found = forest.closingLineAt(position);
        if (found == NONE) {
            throw new NoSuchElementException("there is no such position");
        }
        return found;
    }

    public int loopSize(int line) throws IndexOutOfBoundsException, NoSuchElementException {
        requireLine(line);
        traceLoop(line);
        return loopWay.size;
    }

    public int loopLength(int line) throws IndexOutOfBoundsException, NoSuchElementException {
        requireLine(line);
        traceLoop(line);
        return loopWay.totalLength();
    }

    public int misclosure(int line) throws IndexOutOfBoundsException, NoSuchElementException {
        requireLine(line);
        traceLoop(line);
        return loopWay.rise();
    }

    public int misclosureByLevels(int line) throws IndexOutOfBoundsException, NoSuchElementException {
        requireLine(line);
        traceLoop(line);
        return heights.gapByLevels(line);
    }

    public int part(int loop, int line) throws IndexOutOfBoundsException, NoSuchElementException {
        requireLine(loop);
        requireLine(line);
        traceLoop(loop);
        sharing.divide(loopWay);
        return sharing.parts[line];
    }

    // Profiles

    public int profileCount() {
        return survey.profiles;
    }

    public int stationCount(int profile) throws IndexOutOfBoundsException {
        requireProfile(profile);
        return survey.stations[profile];
    }

    public int waterLevel() {
        return survey.water;
    }

    public int ground(int profile, int column)
            throws IndexOutOfBoundsException, IllegalArgumentException, NoSuchElementException {
        requireProfile(profile);
        if (!bank.hasColumn(profile, column)) {
            throw new IllegalArgumentException("the profile has no such column");
        }
        requireHeight(survey.site[profile]);
        return heights.byWay(survey.site[profile]) + bank.offsetAt(profile, column);
    }

    public int wetColumns(int profile) throws IndexOutOfBoundsException, NoSuchElementException {
        requireProfile(profile);
        requireHeight(survey.site[profile]);
        return bank.wetByColumns(profile, surfaceAt(profile));
    }

    public int wetColumnsBySegments(int profile) throws IndexOutOfBoundsException, NoSuchElementException {
        requireProfile(profile);
        requireHeight(survey.site[profile]);
        return bank.wetBySegments(profile, surfaceAt(profile));
    }

    public int shores(int profile) throws IndexOutOfBoundsException, NoSuchElementException {
        requireProfile(profile);
        requireHeight(survey.site[profile]);
        return bank.shoreLines(profile, surfaceAt(profile));
    }

    public int lowestColumn(int profile) throws IndexOutOfBoundsException, NoSuchElementException {
        requireProfile(profile);
        if (survey.stations[profile] == 0) {
            throw new NoSuchElementException("the profile has no stations");
        }
        return bank.columnOfLowestOffset(profile);
    }

    // Totals and checks

    public double meanLength() throws ArithmeticException {
        int usable = survey.usableLines();
        if (usable == 0) {
            throw new ArithmeticException("there are no usable lines");
        }
        return (double) survey.usableLength() / (double) usable;
    }

    public float usableShare() throws ArithmeticException {
        if (survey.lines == 0) {
            throw new ArithmeticException("there are no lines");
        }
        return (float) survey.usableLines() / (float) survey.lines;
    }

    public boolean isConsistent() {
        forest.find();
        return forest.takenLength() == forest.grownLength()
                && forest.loops() == survey.usableLines() - survey.benchmarks + forest.trees()
                && heightsAgree()
                && misclosuresAgree()
                && wetColumnsAgree();
    }

    // Output and scripts

    public int renderLine(int line) throws IndexOutOfBoundsException {
        requireLine(line);
        forest.find();
        output.setLength(0);
        output.append(line).append(':');
        output.append(survey.first[line]).append('>').append(survey.second[line]);
        output.append(' ').append(survey.corrected(line));
        output.append('/').append(survey.length[line]);
        output.append(markOf(line));
        return output.length();
    }

    public int renderBenchmark(int benchmark) throws IndexOutOfBoundsException {
        requireBenchmark(benchmark);
        forest.find();
        output.setLength(0);
        output.append(benchmark).append('=');
        if (heights.exists(benchmark)) {
            output.append(heights.byWay(benchmark));
        } else {
            output.append('?');
        }
        if (survey.fixed[benchmark]) {
            output.append('!');
        }
        return output.length();
    }

    public char outputAt(int index) throws IndexOutOfBoundsException {
        if (index < 0 || index >= output.length()) {
            throw new IndexOutOfBoundsException("there is no such character");
        }
        return output.charAt(index);
    }

    public int type(char character) throws IllegalArgumentException, IllegalStateException {
        if (!within(character, LEAST_CHARACTER, GREATEST_CHARACTER)) {
            throw new IllegalArgumentException("the character code is not between 32 and 126");
        }
        if (script.size >= MOST_CHARACTERS) {
            throw new IllegalStateException("the script buffer is full");
        }
        script.add(character);
        return script.size;
    }

    public int runScript() throws IllegalArgumentException, IllegalStateException {
        boolean wellFormed = script.read();
        script.size = 0;
        if (!wellFormed) {
            errorAt = script.position;
            throw new IllegalArgumentException("the script does not have the required form");
        }
        before.copyFrom(survey);
        int failed = firstFailure();
        if (failed != NONE) {
            survey.copyFrom(before);
            failedAt = failed;
            throw new IllegalStateException("a command of the script failed");
        }
        history.push(before);
        return script.commands;
    }

    public int errorPosition() throws NoSuchElementException {
        if (errorAt == NONE) {
            throw new NoSuchElementException("there was no malformed script");
        }
        return errorAt;
    }

    public int failedCommand() throws NoSuchElementException {
        if (failedAt == NONE) {
            throw new NoSuchElementException("there was no failed command");
        }
        return failedAt;
    }

    public int undo() throws NoSuchElementException {
        if (history.size == 0) {
            throw new NoSuchElementException("there is nothing to undo");
        }
        history.popInto(survey);
        return history.size;
    }

    public int save() {
        snapshot.copyFrom(survey);
        hasSnapshot = true;
        return survey.lines;
    }

    public int restore() throws IllegalStateException {
        if (!hasSnapshot) {
            throw new IllegalStateException("there is no snapshot");
        }
        survey.copyFrom(snapshot);
        history.size = 0;
        return survey.lines;
    }

    // Helpers of the face

    private int change(Kind kind, int a, int b, int c, int d) {
        raise(changes.troubleWith(kind, a, b, c, d));
        history.push(survey);
        return changes.carryOut(kind, a, b, c, d);
    }

    private static void raise(Trouble trouble) {
        switch (trouble) {
            case NO_INDEX:
                throw new IndexOutOfBoundsException("there is no such index");
            case BAD_ARGUMENT:
                throw new IllegalArgumentException("an argument is out of its range");
            case BAD_STATE:
                throw new IllegalStateException("the state does not allow this change");
            case NO_LOOP:
                throw new NoSuchElementException("the line closes no loop");
            case TOO_GREAT:
                throw new UnsupportedOperationException("the misclosure exceeds the tolerance");
            default:
                break;
        }
    }

    private void requireBenchmark(int benchmark) {
        if (!survey.hasBenchmark(benchmark)) {
            throw new IndexOutOfBoundsException("there is no such benchmark");
        }
    }

    private void requireLine(int line) {
        if (!survey.hasLine(line)) {
            throw new IndexOutOfBoundsException("there is no such line");
        }
    }

    private void requireProfile(int profile) {
        if (!survey.hasProfile(profile)) {
            throw new IndexOutOfBoundsException("there is no such profile");
        }
    }

    private void requireHeight(int benchmark) {
        forest.find();
        if (!heights.exists(benchmark)) {
            throw new NoSuchElementException("the benchmark has no height");
        }
    }

    private void traceLoop(int line) {
        forest.find();
        if (!forest.closesLoop(line)) {
            throw new NoSuchElementException("the line closes no loop");
        }
        loopWay.traceLoop(line);
    }

    /** How far the water stands above the benchmark of a profile: lower offsets are wet. */
    private int surfaceAt(int profile) {
        return survey.water - heights.byWay(survey.site[profile]);
    }

    private char markOf(int line) {
        if (!survey.usable(line)) {
            return 'x';
        }
        return forest.taken[line] ? '*' : 'o';
    }

    private boolean heightsAgree() {
        for (int i = 0; i < survey.benchmarks; i++) {
            if (heights.exists(i) && heights.byWay(i) != heights.byRounds(i)) {
                return false;
            }
        }
        return true;
    }

    private boolean misclosuresAgree() {
        for (int i = 0; i < survey.lines; i++) {
            if (forest.closesLoop(i)) {
                loopWay.traceLoop(i);
                if (loopWay.rise() != heights.gapByLevels(i)) {
                    return false;
                }
            }
        }
        return true;
    }

    private boolean wetColumnsAgree() {
        for (int i = 0; i < survey.profiles; i++) {
            if (heights.exists(survey.site[i])) {
                int surface = surfaceAt(i);
                if (bank.wetByColumns(i, surface) != bank.wetBySegments(i, surface)) {
                    return false;
                }
            }
        }
        return true;
    }

    /** Carries out the commands up to the first one that is in trouble, and answers that one. */
    private int firstFailure() {
        for (int i = 0; i < script.commands; i++) {
            Kind kind = script.kinds[i];
            int[] row = script.arguments[i];
            if (kind == null || changes.troubleWith(kind, row[0], row[1], row[2], row[3]) != Trouble.NOTHING) {
                return i;
            }
            changes.carryOut(kind, row[0], row[1], row[2], row[3]);
        }
        return NONE;
    }

    private static boolean within(int value, int least, int greatest) {
        return value >= least && value <= greatest;
    }

    private static int toleranceFor(int length) {
        int found = 0;
        for (int i = 1; i <= GREATEST_TOLERANCE && i * i <= 9 * length; i++) {
            found = i;
        }
        return found;
    }

    /** Why a change cannot be made. */
    private enum Trouble {
        NOTHING, NO_INDEX, BAD_ARGUMENT, BAD_STATE, NO_LOOP, TOO_GREAT
    }

    /**
     * The changes that a script can make. In a form d is a digit, n a number and v a value; each of them is an
     * argument, and any other sign stands for itself.
     */
    private enum Kind {
        POINT("point", ""),
        FIX("fix ", "d v"),
        FREE("free ", "d"),
        LINE("line ", "dd v/n"),
        BACK("back ", "n v"),
        EXCLUDE("exclude ", "n"),
        INCLUDE("include ", "n"),
        SHARE("share ", "n"),
        RESET("reset", ""),
        PROFILE("profile ", "d"),
        STATION("station ", "d n:v"),
        WATER("water ", "v");

        final String word;
        final String form;

        Kind(String word, String form) {
            this.word = word;
            this.form = form;
        }
    }

    /** All that undo and the snapshot cover. */
    private static final class Survey {
        int benchmarks;
        final boolean[] fixed = new boolean[MOST_BENCHMARKS];
        final int[] fixedHeight = new int[MOST_BENCHMARKS];
        int lines;
        final int[] first = new int[MOST_LINES];
        final int[] second = new int[MOST_LINES];
        final int[] length = new int[MOST_LINES];
        final int[] forward = new int[MOST_LINES];
        final int[] backward = new int[MOST_LINES];
        final boolean[] doubleRun = new boolean[MOST_LINES];
        final boolean[] excluded = new boolean[MOST_LINES];
        final int[] correction = new int[MOST_LINES];
        int profiles;
        final int[] site = new int[MOST_PROFILES];
        final int[] stations = new int[MOST_PROFILES];
        final int[][] distance = new int[MOST_PROFILES][MOST_STATIONS];
        final int[][] offset = new int[MOST_PROFILES][MOST_STATIONS];
        int water;

        void copyFrom(Survey other) {
            copyBenchmarks(other);
            copyLines(other);
            copyProfiles(other);
            water = other.water;
        }

        private void copyBenchmarks(Survey other) {
            benchmarks = other.benchmarks;
            for (int i = 0; i < benchmarks; i++) {
                fixed[i] = other.fixed[i];
                fixedHeight[i] = other.fixedHeight[i];
            }
        }

        private void copyLines(Survey other) {
            lines = other.lines;
            for (int i = 0; i < lines; i++) {
                first[i] = other.first[i];
                second[i] = other.second[i];
                length[i] = other.length[i];
                forward[i] = other.forward[i];
                backward[i] = other.backward[i];
                doubleRun[i] = other.doubleRun[i];
                excluded[i] = other.excluded[i];
                correction[i] = other.correction[i];
            }
        }

        private void copyProfiles(Survey other) {
            profiles = other.profiles;
            for (int i = 0; i < profiles; i++) {
                site[i] = other.site[i];
                stations[i] = other.stations[i];
                for (int j = 0; j < stations[i]; j++) {
                    distance[i][j] = other.distance[i][j];
                    offset[i][j] = other.offset[i][j];
                }
            }
        }

        boolean hasBenchmark(int benchmark) {
            return benchmark >= 0 && benchmark < benchmarks;
        }

        boolean hasLine(int line) {
            return line >= 0 && line < lines;
        }

        boolean hasProfile(int profile) {
            return profile >= 0 && profile < profiles;
        }

        int fixedBenchmarks() {
            int count = 0;
            for (int i = 0; i < benchmarks; i++) {
                count += fixed[i] ? 1 : 0;
            }
            return count;
        }

        int sumOfRuns(int line) {
            return forward[line] + backward[line];
        }

        int levelled(int line) {
            // a shift rounds down below 0, too
            return doubleRun[line] ? (forward[line] - backward[line]) >> 1 : forward[line];
        }

        int corrected(int line) {
            return levelled(line) + correction[line];
        }

        boolean usable(int line) {
            return !excluded[line]
                    && (!doubleRun[line] || Math.abs(sumOfRuns(line)) <= toleranceFor(length[line]));
        }

        int usableLines() {
            int count = 0;
            for (int i = 0; i < lines; i++) {
                count += usable(i) ? 1 : 0;
            }
            return count;
        }

        int usableLength() {
            int sum = 0;
            for (int i = 0; i < lines; i++) {
                sum += usable(i) ? length[i] : 0;
            }
            return sum;
        }

        int lineAtRank(int rank) {
            for (int i = 0; i < lines; i++) {
                if (doubleRun[i] && linesAheadOf(i) == rank) {
                    return i;
                }
            }
            return NONE;
        }

        private int linesAheadOf(int line) {
            int own = Math.abs(sumOfRuns(line));
            int ahead = 0;
            for (int i = 0; i < lines; i++) {
                int other = Math.abs(sumOfRuns(i));
                if (doubleRun[i] && (other > own || other == own && i < line)) {
                    ahead++;
                }
            }
            return ahead;
        }
    }

    /** The latest surveys; the oldest one gives way to a new one when all places are taken. */
    private static final class History {
        private final Survey[] past = new Survey[MOST_UNDOS];
        private int next;
        int size;

        History() {
            for (int i = 0; i < MOST_UNDOS; i++) {
                past[i] = new Survey();
            }
        }

        void push(Survey survey) {
            past[next].copyFrom(survey);
            next = next + 1 < MOST_UNDOS ? next + 1 : 0;
            size = size < MOST_UNDOS ? size + 1 : MOST_UNDOS;
        }

        void popInto(Survey survey) {
            if (size > 0) {
                next = next > 0 ? next - 1 : MOST_UNDOS - 1;
                size--;
                survey.copyFrom(past[next]);
            }
        }
    }

    /** The spanning forest of the survey as it was when find was called. */
    private static final class Forest {
        private final Survey survey;
        private final int[] order = new int[MOST_LINES];
        private int ordered;
        private final boolean[] reached = new boolean[MOST_BENCHMARKS];
        final boolean[] taken = new boolean[MOST_LINES];
        /** The lowest benchmark of the tree of each benchmark. */
        final int[] root = new int[MOST_BENCHMARKS];

        Forest(Survey survey) {
            this.survey = survey;
        }

        void find() {
            putInOrder();
            for (int i = 0; i < MOST_BENCHMARKS; i++) {
                root[i] = i;
            }
            for (int i = 0; i < MOST_LINES; i++) {
                taken[i] = false;
            }
            for (int i = 0; i < ordered; i++) {
                consider(order[i]);
            }
        }

        private void putInOrder() {
            ordered = 0;
            for (int line = 0; line < survey.lines; line++) {
                if (survey.usable(line)) {
                    int place = ordered;
                    for (; place > 0 && survey.length[order[place - 1]] > survey.length[line]; place--) {
                        order[place] = order[place - 1];
                    }
                    order[place] = line;
                    ordered++;
                }
            }
        }

        private void consider(int line) {
            int one = root[survey.first[line]];
            int other = root[survey.second[line]];
            if (one == other) {
                return;
            }
            taken[line] = true;
            int lower = Math.min(one, other);
            int higher = Math.max(one, other);
            for (int i = 0; i < survey.benchmarks; i++) {
                if (root[i] == higher) {
                    root[i] = lower;
                }
            }
        }

        int takenLength() {
            int sum = 0;
            for (int i = 0; i < survey.lines; i++) {
                sum += taken[i] ? survey.length[i] : 0;
            }
            return sum;
        }

        int grownLength() {
            for (int i = 0; i < MOST_BENCHMARKS; i++) {
                reached[i] = false;
            }
            int sum = 0;
            for (int i = 0; i < survey.benchmarks; i++) {
                if (!reached[i]) {
                    reached[i] = true;
                    sum += growReached();
                }
            }
            return sum;
        }

        /** Trees that were grown before are whole, so that no line leads out of them any more. */
        private int growReached() {
            int sum = 0;
            for (int step = 1; step < MOST_BENCHMARKS; step++) {
                int line = firstLineOutOfReached();
                if (line == NONE) {
                    break;
                }
                reached[survey.first[line]] = true;
                reached[survey.second[line]] = true;
                sum += survey.length[line];
            }
            return sum;
        }

        private int firstLineOutOfReached() {
            for (int i = 0; i < ordered; i++) {
                int line = order[i];
                if (reached[survey.first[line]] != reached[survey.second[line]]) {
                    return line;
                }
            }
            return NONE;
        }

        int trees() {
            int count = 0;
            for (int i = 0; i < survey.benchmarks; i++) {
                count += root[i] == i ? 1 : 0;
            }
            return count;
        }

        boolean closesLoop(int line) {
            return survey.usable(line) && !taken[line];
        }

        int loops() {
            int count = 0;
            for (int i = 0; i < survey.lines; i++) {
                count += closesLoop(i) ? 1 : 0;
            }
            return count;
        }

        int closingLineAt(int position) {
            int passed = 0;
            for (int i = 0; i < survey.lines; i++) {
                if (closesLoop(i)) {
                    if (passed == position) {
                        return i;
                    }
                    passed++;
                }
            }
            return NONE;
        }
    }

    /** Lines that are passed one after another; the sign is -1 if a line is passed from its second benchmark. */
    private static final class Way {
        private final Survey survey;
        private final Forest forest;
        final int[] lines = new int[MOST_LINES];
        final int[] signs = new int[MOST_LINES];
        int size;

        Way(Survey survey, Forest forest) {
            this.survey = survey;
            this.forest = forest;
        }

        void trace(int from, int to) {
            size = 0;
            walk(this, from, to, 0);
        }

        void traceLoop(int line) {
            size = 0;
            add(line, survey.first[line]);
            walk(this, survey.second[line], survey.first[line], 0);
        }

        private static boolean walk(Way way, int from, int to, int depth) {
            if (from == to) {
                return true;
            }
            if (depth >= MOST_BENCHMARKS) {
                return false;
            }
            for (int line = 0; line < way.survey.lines; line++) {
                if (way.leadsOn(line, from)) {
                    int next = way.add(line, from);
                    if (walk(way, next, to, depth + 1)) {
                        return true;
                    }
                    way.size--;
                }
            }
            return false;
        }

        /** A forest has no loops: without the line that led here no benchmark is met twice. */
        private boolean leadsOn(int line, int from) {
            boolean ledHere = size > 0 && lines[size - 1] == line;
            return forest.taken[line] && !ledHere && size < MOST_LINES
                    && (survey.first[line] == from || survey.second[line] == from);
        }

        private int add(int line, int from) {
            boolean forwards = survey.first[line] == from;
            lines[size] = line;
            signs[size] = forwards ? 1 : -1;
            size++;
            return forwards ? survey.second[line] : survey.first[line];
        }

        int rise() {
            int sum = 0;
            for (int i = 0; i < size; i++) {
                sum += signs[i] * survey.corrected(lines[i]);
            }
            return sum;
        }

        int totalLength() {
            int sum = 0;
            for (int i = 0; i < size; i++) {
                sum += survey.length[lines[i]];
            }
            return sum;
        }
    }

    /** Divides the misclosure of a loop among its lines. */
    private static final class Sharing {
        private final Survey survey;
        /** By line, 0 for lines that do not belong to the loop. */
        final int[] parts = new int[MOST_LINES];
        private final int[] remainders = new int[MOST_LINES];

        Sharing(Survey survey) {
            this.survey = survey;
        }

        void divide(Way loop) {
            for (int i = 0; i < MOST_LINES; i++) {
                parts[i] = 0;
                remainders[i] = NONE;
            }
            int amount = Math.abs(loop.rise());
            int total = loop.totalLength();
            if (total <= 0) {
                return;
            }
            int missing = amount;
            for (int i = 0; i < loop.size; i++) {
                int line = loop.lines[i];
                int product = amount * survey.length[line];
                parts[line] = product / total;
                remainders[line] = product % total;
                missing -= parts[line];
            }
            giveOut(missing);
        }

        private void giveOut(int missing) {
            for (int given = 0; given < missing && given < MOST_LINES; given++) {
                int line = 0;
                for (int i = 1; i < MOST_LINES; i++) {
                    if (remainders[i] > remainders[line]) {
                        line = i;
                    }
                }
                parts[line]++;
                remainders[line] = NONE;
            }
        }

        void correct(Way loop) {
            int direction = loop.rise() > 0 ? -1 : 1;
            for (int i = 0; i < loop.size; i++) {
                int line = loop.lines[i];
                survey.correction[line] += direction * loop.signs[i] * parts[line];
            }
        }
    }

    /** Heights and levels in the forest that was found last. */
    private static final class Heights {
        private final Survey survey;
        private final Forest forest;
        private final Way way;
        private final boolean[] known = new boolean[MOST_BENCHMARKS];
        private final int[] level = new int[MOST_BENCHMARKS];

        Heights(Survey survey, Forest forest) {
            this.survey = survey;
            this.forest = forest;
            way = new Way(survey, forest);
        }

        int datumOf(int benchmark) {
            for (int i = 0; i < survey.benchmarks; i++) {
                if (survey.fixed[i] && forest.root[i] == forest.root[benchmark]) {
                    return i;
                }
            }
            return NONE;
        }

        boolean exists(int benchmark) {
            return datumOf(benchmark) != NONE;
        }

        int byWay(int benchmark) {
            return survey.fixed[benchmark] ? survey.fixedHeight[benchmark] : carriedFromDatum(benchmark);
        }

        /** The height as if the benchmark was not fixed itself; 0 if it has none. */
        int carriedFromDatum(int benchmark) {
            int start = datumOf(benchmark);
            if (start == NONE) {
                return 0;
            }
            way.trace(start, benchmark);
            return survey.fixedHeight[start] + way.rise();
        }

        int byRounds(int benchmark) {
            int start = datumOf(benchmark);
            if (survey.fixed[benchmark] || start == NONE) {
                return survey.fixedHeight[benchmark];
            }
            passOn(start, survey.fixedHeight[start]);
            return level[benchmark];
        }

        int gapByLevels(int line) {
            int one = survey.first[line];
            int other = survey.second[line];
            passOn(forest.root[one], 0);
            return survey.corrected(line) - (level[other] - level[one]);
        }

        private void passOn(int start, int startLevel) {
            for (int i = 0; i < MOST_BENCHMARKS; i++) {
                known[i] = false;
                level[i] = 0;
            }
            known[start] = true;
            level[start] = startLevel;
            boolean changed = true;
            for (int round = 0; round < MOST_BENCHMARKS && changed; round++) {
                changed = passOnOnce();
            }
        }

        private boolean passOnOnce() {
            boolean changed = false;
            for (int i = 0; i < survey.lines; i++) {
                int one = survey.first[i];
                int other = survey.second[i];
                if (forest.taken[i] && known[one] != known[other]) {
                    if (known[one]) {
                        level[other] = level[one] + survey.corrected(i);
                    } else {
                        level[one] = level[other] - survey.corrected(i);
                    }
                    known[one] = true;
                    known[other] = true;
                    changed = true;
                }
            }
            return changed;
        }

        int atRank(int rank) {
            for (int i = 0; i < survey.benchmarks; i++) {
                if (exists(i) && benchmarksAheadOf(i) == rank) {
                    return i;
                }
            }
            return NONE;
        }

        private int benchmarksAheadOf(int benchmark) {
            int own = byWay(benchmark);
            int ahead = 0;
            for (int i = 0; i < survey.benchmarks; i++) {
                if (exists(i)) {
                    int other = byWay(i);
                    ahead += other > own || other == own && i < benchmark ? 1 : 0;
                }
            }
            return ahead;
        }
    }

    /** The offsets of the profiles; a surface is given as its height above the benchmark of the profile. */
    private static final class Bank {
        private final Survey survey;

        Bank(Survey survey) {
            this.survey = survey;
        }

        boolean hasColumn(int profile, int column) {
            return within(column, firstColumn(profile), lastColumn(profile));
        }

        private int firstColumn(int profile) {
            return survey.distance[profile][0];
        }

        /** Lower than any column if there are no stations. */
        private int lastColumn(int profile) {
            int count = survey.stations[profile];
            return count > 0 ? survey.distance[profile][count - 1] : NONE;
        }

        int offsetAt(int profile, int column) {
            int[] distance = survey.distance[profile];
            int[] offset = survey.offset[profile];
            int last = survey.stations[profile] - 1;
            for (int i = 0; i < last; i++) {
                int span = distance[i + 1] - distance[i];
                if (column < distance[i + 1] && span > 0) {
                    return offset[i] + Math.floorDiv((offset[i + 1] - offset[i]) * (column - distance[i]), span);
                }
            }
            return last >= 0 ? offset[last] : 0;
        }

        int wetByColumns(int profile, int surface) {
            int last = lastColumn(profile);
            int count = 0;
            for (int column = firstColumn(profile); column <= last; column++) {
                count += offsetAt(profile, column) < surface ? 1 : 0;
            }
            return count;
        }

        int shoreLines(int profile, int surface) {
            int last = lastColumn(profile);
            int count = 0;
            for (int column = firstColumn(profile); column < last; column++) {
                boolean wet = offsetAt(profile, column) < surface;
                boolean wetNext = offsetAt(profile, column + 1) < surface;
                count += wet != wetNext ? 1 : 0;
            }
            return count;
        }

        int columnOfLowestOffset(int profile) {
            int last = lastColumn(profile);
            int lowest = firstColumn(profile);
            for (int column = lowest + 1; column <= last; column++) {
                if (offsetAt(profile, column) < offsetAt(profile, lowest)) {
                    lowest = column;
                }
            }
            return lowest;
        }

        int wetBySegments(int profile, int surface) {
            int[] distance = survey.distance[profile];
            int[] offset = survey.offset[profile];
            int last = survey.stations[profile] - 1;
            if (last < 0) {
                return 0;
            }
            int count = offset[last] < surface ? 1 : 0;
            for (int i = 0; i < last; i++) {
                int span = distance[i + 1] - distance[i];
                count += wetOfSegment(span, offset[i + 1] - offset[i], surface - offset[i]);
            }
            return count;
        }

        /**
         * The steps from 0 to span - 1 with rise * step / span, rounded down, below the depth: as the depth is
         * whole, these are the steps with rise * step below depth * span.
         */
        private static int wetOfSegment(int span, int rise, int depth) {
            if (rise == 0) {
                return depth > 0 ? span : 0;
            }
            if (rise > 0) {
                return clamp(Math.floorDiv(depth * span - 1, rise) + 1, span);
            }
            return span - clamp(Math.floorDiv(-depth * span, -rise) + 1, span);
        }

        private static int clamp(int value, int greatest) {
            return Math.max(0, Math.min(value, greatest));
        }
    }

    /** Tells what is in the way of a change, and carries out a change that nothing is in the way of. */
    private static final class Changes {
        private final Survey survey;
        private final Forest forest;
        private final Way loopWay;
        private final Sharing sharing;

        Changes(Survey survey, Forest forest, Way loopWay, Sharing sharing) {
            this.survey = survey;
            this.forest = forest;
            this.loopWay = loopWay;
            this.sharing = sharing;
        }

        Trouble troubleWith(Kind kind, int a, int b, int c, int d) {
            switch (kind) {
                case POINT:
                    return stateTroubleUnless(survey.benchmarks < MOST_BENCHMARKS);
                case FIX:
                    return troubleWithFixing(a, b);
                case FREE:
                    return troubleWithFreeing(a);
                case LINE:
                    return troubleWithLine(a, b, c, d);
                case BACK:
                    return troubleWithBackwardRun(a, b);
                case EXCLUDE:
                    return troubleWithExclusion(a, true);
                case INCLUDE:
                    return troubleWithExclusion(a, false);
                case SHARE:
                    return troubleWithSharing(a);
                case PROFILE:
                    return troubleWithProfile(a);
                case STATION:
                    return troubleWithStation(a, b, c);
                case WATER:
                    return isHeight(a) ? Trouble.NOTHING : Trouble.BAD_ARGUMENT;
                default:
                    return Trouble.NOTHING;
            }
        }

        private static Trouble stateTroubleUnless(boolean allowed) {
            return allowed ? Trouble.NOTHING : Trouble.BAD_STATE;
        }

        private static boolean isHeight(int height) {
            return within(height, -GREATEST_HEIGHT, GREATEST_HEIGHT);
        }

        private static boolean isRun(int run) {
            return within(run, -GREATEST_RUN, GREATEST_RUN);
        }

        private Trouble troubleWithFixing(int benchmark, int height) {
            if (!survey.hasBenchmark(benchmark)) {
                return Trouble.NO_INDEX;
            }
            return isHeight(height) ? Trouble.NOTHING : Trouble.BAD_ARGUMENT;
        }

        private Trouble troubleWithFreeing(int benchmark) {
            if (!survey.hasBenchmark(benchmark)) {
                return Trouble.NO_INDEX;
            }
            return stateTroubleUnless(survey.fixed[benchmark]);
        }

        private Trouble troubleWithLine(int first, int second, int forward, int length) {
            if (!survey.hasBenchmark(first) || !survey.hasBenchmark(second)) {
                return Trouble.NO_INDEX;
            }
            if (first == second || !isRun(forward) || !within(length, 1, GREATEST_LENGTH)) {
                return Trouble.BAD_ARGUMENT;
            }
            return stateTroubleUnless(survey.lines < MOST_LINES);
        }

        private Trouble troubleWithBackwardRun(int line, int backward) {
            if (!survey.hasLine(line)) {
                return Trouble.NO_INDEX;
            }
            if (!isRun(backward)) {
                return Trouble.BAD_ARGUMENT;
            }
            return stateTroubleUnless(!survey.doubleRun[line]);
        }

        private Trouble troubleWithExclusion(int line, boolean excluded) {
            if (!survey.hasLine(line)) {
                return Trouble.NO_INDEX;
            }
            return stateTroubleUnless(survey.excluded[line] != excluded);
        }

        private Trouble troubleWithSharing(int line) {
            if (!survey.hasLine(line)) {
                return Trouble.NO_INDEX;
            }
            forest.find();
            if (!forest.closesLoop(line)) {
                return Trouble.NO_LOOP;
            }
            loopWay.traceLoop(line);
            boolean tolerable = Math.abs(loopWay.rise()) <= toleranceFor(loopWay.totalLength());
            return tolerable ? Trouble.NOTHING : Trouble.TOO_GREAT;
        }

        private Trouble troubleWithProfile(int benchmark) {
            if (!survey.hasBenchmark(benchmark)) {
                return Trouble.NO_INDEX;
            }
            return stateTroubleUnless(survey.profiles < MOST_PROFILES);
        }

        private Trouble troubleWithStation(int profile, int distance, int offset) {
            if (!survey.hasProfile(profile)) {
                return Trouble.NO_INDEX;
            }
            if (!within(distance, 0, GREATEST_DISTANCE) || !within(offset, -GREATEST_OFFSET, GREATEST_OFFSET)) {
                return Trouble.BAD_ARGUMENT;
            }
            int count = survey.stations[profile];
            return stateTroubleUnless(count < MOST_STATIONS
                    && (count == 0 || distance > survey.distance[profile][count - 1]));
        }

        int carryOut(Kind kind, int a, int b, int c, int d) {
            switch (kind) {
                case POINT:
                    return putBenchmark();
                case FIX:
                    survey.fixed[a] = true;
                    survey.fixedHeight[a] = b;
                    return survey.fixedBenchmarks();
                case FREE:
                    survey.fixed[a] = false;
                    return survey.fixedHeight[a];
                case LINE:
                    return putLine(a, b, c, d);
                case BACK:
                    survey.backward[a] = b;
                    survey.doubleRun[a] = true;
                    return survey.sumOfRuns(a);
                case EXCLUDE:
                    survey.excluded[a] = true;
                    return survey.usableLines();
                case INCLUDE:
                    survey.excluded[a] = false;
                    return survey.usableLines();
                case SHARE:
                    return shareOut(a);
                case RESET:
                    return clearCorrections();
                case PROFILE:
                    return putProfile(a);
                case STATION:
                    return putStation(a, b, c);
                case WATER:
                    return putWater(a);
                default:
                    return NONE;
            }
        }

        private int putBenchmark() {
            int benchmark = survey.benchmarks;
            survey.fixed[benchmark] = false;
            survey.fixedHeight[benchmark] = 0;
            survey.benchmarks++;
            return benchmark;
        }

        private int putLine(int first, int second, int forward, int length) {
            int line = survey.lines;
            survey.first[line] = first;
            survey.second[line] = second;
            survey.length[line] = length;
            survey.forward[line] = forward;
            survey.backward[line] = 0;
            survey.doubleRun[line] = false;
            survey.excluded[line] = false;
            survey.correction[line] = 0;
            survey.lines++;
            return line;
        }

        private int shareOut(int line) {
            forest.find();
            loopWay.traceLoop(line);
            int shared = loopWay.rise();
            sharing.divide(loopWay);
            sharing.correct(loopWay);
            return shared;
        }

        private int clearCorrections() {
            int changed = 0;
            for (int i = 0; i < survey.lines; i++) {
                changed += survey.correction[i] != 0 ? 1 : 0;
                survey.correction[i] = 0;
            }
            return changed;
        }

        private int putProfile(int benchmark) {
            int profile = survey.profiles;
            survey.site[profile] = benchmark;
            survey.stations[profile] = 0;
            survey.profiles++;
            return profile;
        }

        private int putStation(int profile, int distance, int offset) {
            int place = survey.stations[profile];
            survey.distance[profile][place] = distance;
            survey.offset[profile][place] = offset;
            survey.stations[profile]++;
            return survey.stations[profile];
        }

        private int putWater(int level) {
            int previous = survey.water;
            survey.water = level;
            return previous;
        }
    }

    /** The script buffer, and the commands that were read from it last. */
    private static final class Script {
        private final char[] text = new char[MOST_CHARACTERS];
        int size;
        /** Where reading stands: the error position if the script was refused. */
        int position;
        int commands;
        final Kind[] kinds = new Kind[MOST_COMMANDS];
        final int[][] arguments = new int[MOST_COMMANDS][MOST_ARGUMENTS];

        void add(char character) {
            text[size] = character;
            size++;
        }

        boolean read() {
            position = 0;
            commands = 0;
            boolean more = true;
            for (int i = 0; i < MOST_COMMANDS && more; i++) {
                if (!readCommand()) {
                    return false;
                }
                more = readSign(';');
            }
            return !more && position == size;
        }

        private boolean readCommand() {
            Kind kind = readWord();
            if (kind == null || commands >= MOST_COMMANDS || !readForm(kind.form, arguments[commands])) {
                return false;
            }
            kinds[commands] = kind;
            commands++;
            return true;
        }

        /** Several words begin in the same way, so that the one that fits furthest tells the error position. */
        private Kind readWord() {
            int furthest = 0;
            for (int i = 0; i < KINDS.length; i++) {
                int fitting = fittingSigns(KINDS[i].word);
                if (fitting == KINDS[i].word.length()) {
                    position += fitting;
                    return KINDS[i];
                }
                furthest = Math.max(furthest, fitting);
            }
            position += furthest;
            return null;
        }

        private int fittingSigns(String word) {
            int count = 0;
            for (int i = 0; i < word.length() && signAt(position + i) == word.charAt(i); i++) {
                count++;
            }
            return count;
        }

        private boolean readForm(String form, int[] row) {
            int read = 0;
            boolean fits = true;
            for (int i = 0; i < form.length() && fits; i++) {
                char sign = form.charAt(i);
                int digits = mostDigits(sign);
                if (digits == 0) {
                    fits = readSign(sign);
                } else if (read < MOST_ARGUMENTS) {
                    fits = readArgument(digits, sign == 'v', row, read);
                    read++;
                }
            }
            return fits;
        }

        private static int mostDigits(char sign) {
            switch (sign) {
                case 'd':
                    return 1;
                case 'n':
                    return 2;
                case 'v':
                    return 5;
                default:
                    return 0;
            }
        }

        private boolean readArgument(int mostDigits, boolean signed, int[] row, int place) {
            boolean negative = signed && readSign('-');
            int found = 0;
            int count = 0;
            for (; count < mostDigits && within(signAt(position), '0', '9'); count++) {
                found = 10 * found + (signAt(position) - '0');
                position++;
            }
            row[place] = negative ? -found : found;
            return count > 0;
        }

        private boolean readSign(char sign) {
            boolean fits = signAt(position) == sign;
            if (fits) {
                position++;
            }
            return fits;
        }

        private char signAt(int index) {
            return index >= 0 && index < size ? text[index] : END;
        }
    }
}
