import java.util.NoSuchElementException;

/** Promises 44 to 51 at their edges: no station, one and ten, the first and the last column, water at the ground. */
public final class ProfilesEdgesTest {
    private static final Check CHECK = new Check("ProfilesEdgesTest");
    private static final Class<IllegalArgumentException> ARGUMENT = IllegalArgumentException.class;
    private static final Class<NoSuchElementException> ELEMENT = NoSuchElementException.class;
    private static final int[] NONE = {};

    private ProfilesEdgesTest() {
    }

    public static void main(String[] args) {
        promise44And45EveryCount();
        promise46Limits();
        promise47Columns();
        promise47RefusedColumns();
        promise47RoundsDown();
        promise47SteepestAndFlattest();
        promise47To50WithoutHeight();
        promise48To51WithoutStations();
        promise48To51OneStation();
        promise48And49WaterAtTheGround();
        promise48And49AllColumns();
        promise48And49EachSegment();
        promise48And49FarthestLevels();
        promise50Shores();
        promise51FirstOfSeveral();
        promise51BetweenStations();
        CHECK.end();
    }

    /** A profile at a benchmark with the height 0. */
    private static LevelingNetwork bank(int[] distances, int[] offsets) {
        LevelingNetwork x = Build.benchmarks(1);
        x.fix(0, 0);
        x.addProfile(0);
        for (int i = 0; i < distances.length; i++) {
            x.addStation(0, distances[i], offsets[i]);
        }
        return x;
    }

    private static void dueWet(String told, LevelingNetwork x, int want) {
        CHECK.due("promise 48: wetColumns, " + told, x.wetColumns(0), want);
        CHECK.due("promise 49: wetColumnsBySegments, " + told, x.wetColumnsBySegments(0), want);
        CHECK.due("promise 54: isConsistent, " + told, x.isConsistent(), true);
    }

    private static void promise44And45EveryCount() {
        LevelingNetwork x = Build.benchmarks(1);
        for (int profile = 0; profile < 4; profile++) {
            CHECK.due("promise 44: profileCount()", x.profileCount(), profile);
            x.addProfile(0);
            for (int station = 0; station < 10; station++) {
                CHECK.due("promise 45: stationCount()", x.stationCount(profile), station);
                x.addStation(profile, 90 + station, 0);
            }
            CHECK.due("promise 45: stationCount(), the greatest", x.stationCount(profile), 10);
        }
        CHECK.due("promise 44: profileCount(), the greatest", x.profileCount(), 4);
        CHECK.due("promise 45: stationCount(0) afterwards", x.stationCount(0), 10);
    }

    private static void promise46Limits() {
        LevelingNetwork x = new LevelingNetwork();
        for (int level : new int[] {-99999, 99999, 0}) {
            x.setWaterLevel(level);
            CHECK.due("promise 46: waterLevel()", x.waterLevel(), level);
        }
    }

    private static void promise47Columns() {
        int[][] ends = {{0, 99}, {0, 1}, {98, 99}, {30, 40}};
        for (int[] pair : ends) {
            LevelingNetwork x = bank(pair, new int[] {-999, 999});
            CHECK.due("promise 47: the first column", x.ground(0, pair[0]), -999);
            CHECK.due("promise 47: the last column", x.ground(0, pair[1]), 999);
            CHECK.dueThrow("promise 47: before the first", ARGUMENT, () -> x.ground(0, pair[0] - 1));
            CHECK.dueThrow("promise 47: behind the last", ARGUMENT, () -> x.ground(0, pair[1] + 1));
        }
    }

    private static void promise47RefusedColumns() {
        int[][] columns = {{19, 28}, {-1, 0}, {-1, 100}, {98, 100}};
        for (int profile = 0; profile < 4; profile++) {
            Scene scene = profile < 2 ? Scene.PARTLY : Scene.FULL;
            int index = profile < 2 ? profile : profile == 2 ? 0 : 2;
            for (int end : columns[profile]) {
                refuseColumn(scene, index, end);
            }
            refuseColumn(scene, index, Integer.MIN_VALUE);
            refuseColumn(scene, index, Integer.MAX_VALUE);
        }
        refuseColumn(Scene.FULL, 1, -1);
        refuseColumn(Scene.FULL, 1, 0);
    }

    private static void refuseColumn(Scene scene, int profile, int column) {
        String told = "promise 47: ground(" + profile + ", " + column + ")";
        scene.refuses(CHECK, told, ARGUMENT, x -> x.ground(profile, column));
    }

    /** From 5 falling by 1 and by 2 in three columns, and rising in the same way: thirds are rounded down. */
    private static void promise47RoundsDown() {
        int[][] rows = {{5, 4, 4, 4, 4}, {5, 3, 4, 3, 3}, {5, 6, 5, 5, 6}, {5, 7, 5, 6, 7}, {0, -1, -1, -1, -1},
            {0, -2, -1, -2, -2}, {-5, -6, -6, -6, -6}, {-5, -4, -5, -5, -4}, {1, -1, 0, -1, -1}, {-1, 1, -1, 0, 1},
            {-7, -7, -7, -7, -7}, {0, 3, 1, 2, 3}, {0, -3, -1, -2, -3}};
        for (int[] row : rows) {
            LevelingNetwork x = bank(new int[] {10, 13}, new int[] {row[0], row[1]});
            String told = "promise 47: from " + row[0] + " to " + row[1];
            CHECK.due(told + ", first", x.ground(0, 10), row[0]);
            CHECK.due(told + ", one third", x.ground(0, 11), row[2]);
            CHECK.due(told + ", two thirds", x.ground(0, 12), row[3]);
            CHECK.due(told + ", last", x.ground(0, 13), row[4]);
        }
    }

    /** 1998 millimetres in 99 columns and in one, and 1 millimetre in 99 columns. */
    private static void promise47SteepestAndFlattest() {
        LevelingNetwork falling = bank(new int[] {0, 99}, new int[] {999, -999});
        LevelingNetwork rising = bank(new int[] {0, 99}, new int[] {-999, 999});
        LevelingNetwork flat = bank(new int[] {0, 99}, new int[] {0, -1});
        for (int column = 0; column < 100; column++) {
            int down = -1998 * column;
            int rounded = down % 99 == 0 ? down / 99 : down / 99 - 1;
            CHECK.due("promise 47: falling", falling.ground(0, column), 999 + rounded);
            CHECK.due("promise 47: rising", rising.ground(0, column), -999 + 1998 * column / 99);
            CHECK.due("promise 47: nearly flat", flat.ground(0, column), column == 0 ? 0 : -1);
        }
        LevelingNetwork high = bank(new int[] {0, 1}, new int[] {999, -999});
        high.fix(0, 99999);
        CHECK.due("promise 47: the highest", high.ground(0, 0), 100998);
        high.fix(0, -99999);
        CHECK.due("promise 47: the lowest", high.ground(0, 1), -100998);
    }

    private static void promise47To50WithoutHeight() {
        Scene scene = new Scene("without heights", () -> {
            LevelingNetwork x = bank(new int[] {0, 99}, new int[] {-5, 5});
            x.release(0);
            x.addProfile(0);
            return x;
        });
        for (int column : new int[] {0, 50, 99}) {
            scene.refuses(CHECK, "promise 47: ground(0, " + column + ")", ELEMENT, x -> x.ground(0, column));
        }
        refuseColumn(scene, 0, -1);
        refuseColumn(scene, 0, 100);
        refuseColumn(scene, 1, 0);
        for (int profile : new int[] {0, 1}) {
            scene.refuses(CHECK, "promise 48: wetColumns", ELEMENT, x -> x.wetColumns(profile));
            scene.refuses(CHECK, "promise 49: wetColumnsBySegments", ELEMENT, x -> x.wetColumnsBySegments(profile));
            scene.refuses(CHECK, "promise 50: shores", ELEMENT, x -> x.shores(profile));
        }
        CHECK.due("promise 51: lowestColumn needs no height", scene.make().lowestColumn(0), 0);
        scene.refuses(CHECK, "promise 51: lowestColumn(1) without stations", ELEMENT, x -> x.lowestColumn(1));
    }

    private static void promise48To51WithoutStations() {
        for (int level : new int[] {-99999, 0, 1, 99999}) {
            LevelingNetwork x = bank(NONE, NONE);
            x.setWaterLevel(level);
            dueWet("no station", x, 0);
            CHECK.due("promise 50: shores of no station", x.shores(0), 0);
        }
        Scene scene = new Scene("without stations", () -> bank(NONE, NONE));
        scene.refuses(CHECK, "promise 51: lowestColumn(0)", ELEMENT, x -> x.lowestColumn(0));
        for (int profile : new int[] {1, 3}) {
            String told = "promise 51: lowestColumn(" + profile + ")";
            Scene.FULL.refuses(CHECK, told, ELEMENT, x -> x.lowestColumn(profile));
        }
        Scene.PARTLY.refuses(CHECK, "promise 51: lowestColumn(1)", ELEMENT, x -> x.lowestColumn(1));
        LevelingNetwork again = bank(new int[] {5}, new int[] {-3});
        again.undo();
        again.setWaterLevel(9);
        dueWet("a station that was undone", again, 0);
        CHECK.due("promise 50: shores of a station that was undone", again.shores(0), 0);
        CHECK.dueThrow("promise 51: of a station that was undone", ELEMENT, () -> again.lowestColumn(0));
        CHECK.dueThrow("promise 47: of a station that was undone", ARGUMENT, () -> again.ground(0, 5));
    }

    private static void promise48To51OneStation() {
        for (int distance : new int[] {0, 99}) {
            for (int offset : new int[] {-999, 0, 999}) {
                LevelingNetwork x = bank(new int[] {distance}, new int[] {offset});
                CHECK.due("promise 51: lowestColumn of one station", x.lowestColumn(0), distance);
                x.setWaterLevel(offset);
                dueWet("one station, water at the ground", x, 0);
                x.setWaterLevel(offset + 1);
                dueWet("one station, water above the ground", x, 1);
                CHECK.due("promise 50: shores of one station", x.shores(0), 0);
            }
        }
    }

    /** Slopes of whole and of broken millimetres, up and down: water at a ground leaves that ground dry. */
    private static void promise48And49WaterAtTheGround() {
        int[][] slopes = {{0, 4}, {4, 0}, {0, 8}, {8, 0}, {0, 3}, {3, 0}, {0, 1}, {1, 0}, {2, 2}, {-3, 2}, {2, -3}};
        for (int[] slope : slopes) {
            LevelingNetwork x = bank(new int[] {40, 44}, slope);
            for (int level = -5; level <= 10; level++) {
                int want = 0;
                for (int column = 40; column <= 44; column++) {
                    want += x.ground(0, column) < level ? 1 : 0;
                }
                x.setWaterLevel(level);
                dueWet("from " + slope[0] + " to " + slope[1] + " at " + level, x, want);
            }
        }
        LevelingNetwork rising = bank(new int[] {40, 44}, new int[] {0, 4});
        for (int level = 0; level <= 5; level++) {
            rising.setWaterLevel(level);
            dueWet("rising, water at column " + (40 + level), rising, level);
        }
    }

    private static void promise48And49AllColumns() {
        LevelingNetwork x = bank(new int[] {0, 99}, new int[] {999, -999});
        x.setWaterLevel(-999);
        dueWet("water at the lowest ground", x, 0);
        x.setWaterLevel(-998);
        dueWet("water just above the lowest ground", x, 1);
        x.setWaterLevel(999);
        dueWet("water at the highest ground", x, 99);
        x.setWaterLevel(1000);
        dueWet("water above all", x, 100);
        CHECK.due("promise 50: shores above all", x.shores(0), 0);
    }

    /** Ten stations with unlike gaps; each column belongs to one segment only, so none may be counted twice. */
    private static void promise48And49EachSegment() {
        int[] distances = {0, 1, 3, 6, 10, 15, 21, 28, 50, 99};
        int[] offsets = {7, -7, 0, 0, 5, -20, 30, 29, -30, 40};
        for (int level = -31; level <= 41; level++) {
            LevelingNetwork x = bank(distances, offsets);
            int want = 0;
            for (int column = 0; column <= 99; column++) {
                want += x.ground(0, column) < level ? 1 : 0;
            }
            x.setWaterLevel(level);
            dueWet("ten stations at " + level, x, want);
        }
    }

    /** The water as far from the ground as it can be, also with heights that are carried beyond all limits. */
    private static void promise48And49FarthestLevels() {
        for (int sign : new int[] {-1, 1}) {
            LevelingNetwork x = Build.benchmarks(10);
            for (int i = 0; i < 9; i++) {
                x.addLine(i, i + 1, sign * 9999, 1);
            }
            x.fix(0, sign * 99999);
            x.addProfile(9);
            x.addStation(0, 0, 999);
            x.addStation(0, 99, -999);
            x.setWaterLevel(-sign * 99999);
            dueWet("far from the ground", x, sign < 0 ? 100 : 0);
            CHECK.due("promise 50: far from the ground", x.shores(0), 0);
            CHECK.due("promise 47: far from 0", x.ground(0, 0), sign * 189990 + 999);
        }
    }

    /** Ten stations side by side, dry and wet by turns: no profile has more shores for its stations. */
    private static void promise50Shores() {
        int[] distances = new int[10];
        int[] offsets = new int[10];
        for (int i = 0; i < 10; i++) {
            distances[i] = 90 + i;
            offsets[i] = i % 2 == 0 ? 1 : 0;
        }
        LevelingNetwork x = bank(distances, offsets);
        int[] want = {0, 9, 0};
        for (int level = 0; level < want.length; level++) {
            x.setWaterLevel(level);
            CHECK.due("promise 50: shores at " + level, x.shores(0), want[level]);
        }
        LevelingNetwork slope = bank(new int[] {0, 99}, new int[] {0, 99});
        for (int level : new int[] {0, 1, 50, 99, 100}) {
            slope.setWaterLevel(level);
            CHECK.due("promise 50: a slope at " + level, slope.shores(0), level == 0 || level == 100 ? 0 : 1);
        }
    }

    private static void dueLowest(String told, int[] distances, int[] offsets, int want) {
        CHECK.due("promise 51: lowestColumn, " + told, bank(distances, offsets).lowestColumn(0), want);
    }

    private static void promise51FirstOfSeveral() {
        dueLowest("all equal", new int[] {0, 99}, new int[] {3, 3}, 0);
        dueLowest("both ends", new int[] {0, 50, 99}, new int[] {-9, 9, -9}, 0);
        dueLowest("the last one", new int[] {0, 98, 99}, new int[] {-9, 9, -10}, 99);
        dueLowest("in the middle", new int[] {49, 50, 51}, new int[] {9, -9, 9}, 50);
        dueLowest("two in the middle", new int[] {48, 49, 50, 51}, new int[] {9, -9, -9, 9}, 49);
        dueLowest("as low as can be", new int[] {98, 99}, new int[] {999, -999}, 99);
    }

    /** A ground that is rounded down reaches the lowest one before the station does. */
    private static void promise51BetweenStations() {
        dueLowest("falling by 1", new int[] {10, 20}, new int[] {0, -1}, 11);
        dueLowest("falling by 2", new int[] {10, 20}, new int[] {0, -2}, 16);
        dueLowest("rising by 1", new int[] {10, 20}, new int[] {-1, 0}, 10);
        dueLowest("falling by 10", new int[] {10, 20}, new int[] {0, -10}, 20);
    }
}
