import java.util.NoSuchElementException;

/** Promises 44 to 51: profiles. */
final class ProfilesTest {
    private static final Check CHECK = new Check("ProfilesTest");
    private static final Class<IndexOutOfBoundsException> INDEX = IndexOutOfBoundsException.class;
    private static final Class<IllegalArgumentException> ARGUMENT = IllegalArgumentException.class;
    private static final Class<NoSuchElementException> ELEMENT = NoSuchElementException.class;

    private ProfilesTest() {
    }

    public static void main(String[] args) {
        promise44And45Counts();
        promise46WaterLevel();
        promise47Ground();
        promise47OrderOfExceptions();
        promise48And49WetColumns();
        promise48And49Edges();
        promise48And49EveryLevel();
        promise50Shores();
        promise51LowestColumn();
        promise51WithoutHeight();
        CHECK.end();
    }

    /** A profile at benchmark 0 with the height 1000: falling, flat and rising. */
    private static LevelingNetwork bank() {
        LevelingNetwork x = Build.benchmarks(2);
        x.fix(0, 1000);
        x.addProfile(0);
        x.addStation(0, 10, 20);
        x.addStation(0, 13, -30);
        x.addStation(0, 15, -30);
        x.addStation(0, 22, 5);
        return x;
    }

    private static void promise44And45Counts() {
        LevelingNetwork x = bank();
        CHECK.due("profileCount", x.profileCount(), 1);
        CHECK.due("stationCount", x.stationCount(0), 4);
        x.addProfile(1);
        CHECK.due("profileCount", x.profileCount(), 2);
        CHECK.due("stationCount", x.stationCount(1), 0);
        CHECK.dueThrow("stationCount beyond", INDEX, () -> x.stationCount(2));
        CHECK.dueThrow("stationCount below", INDEX, () -> x.stationCount(-1));
    }

    private static void promise46WaterLevel() {
        LevelingNetwork x = bank();
        CHECK.due("waterLevel", x.waterLevel(), 0);
        x.setWaterLevel(-12);
        CHECK.due("waterLevel", x.waterLevel(), -12);
    }

    private static void promise47Ground() {
        LevelingNetwork x = bank();
        // 20 - 50 / 3 and 20 - 100 / 3, rounded down: 3 and -14; then 7 steps of 5
        int[] want = {20, 3, -14, -30, -30, -30, -25, -20, -15, -10, -5, 0, 5};
        for (int i = 0; i < want.length; i++) {
            CHECK.due("ground " + (10 + i), x.ground(0, 10 + i), 1000 + want[i]);
        }
        CHECK.dueThrow("column before the first", ARGUMENT, () -> x.ground(0, 9));
        CHECK.dueThrow("column after the last", ARGUMENT, () -> x.ground(0, 23));
        CHECK.dueThrow("column -1", ARGUMENT, () -> x.ground(0, -1));
        x.addProfile(0);
        CHECK.dueThrow("column 0 without stations", ARGUMENT, () -> x.ground(1, 0));
        CHECK.dueThrow("column -1 without stations", ARGUMENT, () -> x.ground(1, -1));
        x.addStation(1, 0, 7);
        CHECK.due("ground at one station", x.ground(1, 0), 1007);
        CHECK.dueThrow("column -1", ARGUMENT, () -> x.ground(1, -1));
        CHECK.dueThrow("column 1", ARGUMENT, () -> x.ground(1, 1));
    }

    private static void promise47OrderOfExceptions() {
        LevelingNetwork x = bank();
        x.release(0);
        CHECK.dueThrow("profile beyond", INDEX, () -> x.ground(1, 9));
        CHECK.dueThrow("profile below", INDEX, () -> x.ground(-1, 9));
        CHECK.dueThrow("no column and no height", ARGUMENT, () -> x.ground(0, 9));
        CHECK.dueThrow("no height", ELEMENT, () -> x.ground(0, 10));
        x.addLine(0, 1, 1, 1);
        x.fix(1, 50);
        CHECK.due("ground with a height from elsewhere", x.ground(0, 10), 69);
    }

    private static void promise48And49WetColumns() {
        LevelingNetwork x = bank();
        int[] levels = {0, 970, 971, 975, 976, 986, 987, 1000, 1001, 1003, 1004, 1020, 1021};
        int[] want = {0, 0, 3, 3, 4, 6, 7, 9, 10, 10, 11, 12, 13};
        for (int i = 0; i < want.length; i++) {
            x.setWaterLevel(levels[i]);
            CHECK.due("wetColumns at " + levels[i], x.wetColumns(0), want[i]);
            CHECK.due("wetColumnsBySegments at " + levels[i], x.wetColumnsBySegments(0), want[i]);
        }
    }

    private static void promise48And49Edges() {
        LevelingNetwork x = bank();
        x.setWaterLevel(99999);
        x.addProfile(0);
        CHECK.due("wetColumns without stations", x.wetColumns(1), 0);
        CHECK.due("wetColumnsBySegments without stations", x.wetColumnsBySegments(1), 0);
        x.addStation(1, 99, 999);
        CHECK.due("wetColumns of one station", x.wetColumns(1), 1);
        CHECK.due("wetColumnsBySegments of one station", x.wetColumnsBySegments(1), 1);
        x.addProfile(1);
        CHECK.dueThrow("wetColumns without height or stations", ELEMENT, () -> x.wetColumns(2));
        CHECK.dueThrow("wetColumnsBySegments without height or stations", ELEMENT, () -> x.wetColumnsBySegments(2));
        CHECK.dueThrow("wetColumns beyond", INDEX, () -> x.wetColumns(3));
        CHECK.dueThrow("wetColumns below", INDEX, () -> x.wetColumns(-1));
        CHECK.dueThrow("wetColumnsBySegments beyond", INDEX, () -> x.wetColumnsBySegments(3));
        CHECK.dueThrow("wetColumnsBySegments below", INDEX, () -> x.wetColumnsBySegments(-1));
    }

    /** Compares with the words of the document: a column is wet if its ground is lower than the water level. */
    private static void promise48And49EveryLevel() {
        LevelingNetwork x = Build.benchmarks(1);
        x.fix(0, -40);
        x.addProfile(0);
        int[] distances = {0, 1, 8, 9, 20, 27, 40};
        int[] offsets = {10, -9, 4, 5, -23, -22, 30};
        for (int i = 0; i < distances.length; i++) {
            x.addStation(0, distances[i], offsets[i]);
        }
        for (int level = -70; level <= 0; level++) {
            x.setWaterLevel(level);
            int want = 0;
            for (int column = 0; column <= 40; column++) {
                want += x.ground(0, column) < level ? 1 : 0;
            }
            CHECK.due("wetColumns at " + level, x.wetColumns(0), want);
            CHECK.due("wetColumnsBySegments at " + level, x.wetColumnsBySegments(0), want);
        }
    }

    private static void promise50Shores() {
        LevelingNetwork x = bank();
        int[] levels = {970, 971, 1005, 1006, 1020, 1021};
        int[] want = {0, 2, 2, 1, 1, 0};
        for (int i = 0; i < want.length; i++) {
            x.setWaterLevel(levels[i]);
            CHECK.due("shores at " + levels[i], x.shores(0), want[i]);
        }
        x.addProfile(0);
        CHECK.due("shores without stations", x.shores(1), 0);
        x.addStation(1, 0, 0);
        CHECK.due("shores of one station", x.shores(1), 0);
        x.addStation(1, 1, 300);
        x.addStation(1, 2, -5);
        CHECK.due("shores of a spike", x.shores(1), 2);
        x.addProfile(1);
        CHECK.dueThrow("shores without height", ELEMENT, () -> x.shores(2));
        CHECK.dueThrow("shores beyond", INDEX, () -> x.shores(3));
        CHECK.dueThrow("shores below", INDEX, () -> x.shores(-1));
    }

    private static void promise51LowestColumn() {
        LevelingNetwork x = bank();
        CHECK.due("lowestColumn is the first of several", x.lowestColumn(0), 13);
        x.addProfile(0);
        CHECK.dueThrow("lowestColumn without stations", ELEMENT, () -> x.lowestColumn(1));
        x.addStation(1, 5, 0);
        CHECK.due("lowestColumn of one station", x.lowestColumn(1), 5);
        x.addStation(1, 50, -1);
        CHECK.due("lowestColumn between two stations", x.lowestColumn(1), 6);
        x.addStation(1, 51, -2);
        CHECK.due("lowestColumn at the end", x.lowestColumn(1), 51);
        CHECK.dueThrow("lowestColumn beyond", INDEX, () -> x.lowestColumn(2));
        CHECK.dueThrow("lowestColumn below", INDEX, () -> x.lowestColumn(-1));
    }

    private static void promise51WithoutHeight() {
        LevelingNetwork x = bank();
        x.release(0);
        CHECK.due("lowestColumn without a height", x.lowestColumn(0), 13);
    }
}
