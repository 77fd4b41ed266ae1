/** Promises 35 to 39: deeds, corners, places, areas, and corners that yield. */
public final class DeedsTest {
    private static final Checks CHECKS = new Checks();

    public static void main(String[] args) {
        deed();
        corner();
        places();
        placesByVersion();
        roundedPlaces();
        area();
        yields();
        CHECKS.end();
    }

    private static void due(int promise, String what, Object want, Checks.Call call) {
        CHECKS.due(promise, what, want, call);
    }

    /** Points fixed along the axes 0 and 1, and a version of them; the last point is not fixed. */
    private static Traversehall land(int[][] at) {
        Traversehall land = new Traversehall();
        for (int[] place : at) {
            int point = land.addPoint();
            land.fix(point, 0, place[0]);
            land.fix(point, 1, place[1]);
        }
        land.addPoint();
        land.publish(0);
        return land;
    }

    private static void deed() {
        Traversehall land = new Traversehall();
        for (int count = 0; count < 8; count++) {
            int number = count;
            due(35, "a deed's number", number, () -> land.deed());
        }
        due(35, "a ninth deed", Checks.STATE, () -> land.deed());
        due(35, "the eighth has no corners", 1, () -> land.corner(7, -1, 0, 0));
    }

    private static void corner() {
        Traversehall land = land(new int[][] {{0, 0}});
        land.deed();
        land.deed();
        due(36, "the first corner", 1, () -> land.corner(0, 0, 999, -999));
        due(36, "the second corner", 2, () -> land.corner(0, -1, -999, 999));
        due(36, "another deed by itself", 1, () -> land.corner(1, 1, 0, 0));
        due(36, "no such deed", Checks.INDEX, () -> land.corner(2, -1, 0, 0));
        due(36, "a deed below 0", Checks.INDEX, () -> land.corner(-1, -1, 0, 0));
        due(36, "no such point", Checks.INDEX, () -> land.corner(0, 2, 0, 0));
        due(36, "a point below -1", Checks.INDEX, () -> land.corner(0, -2, 0, 0));
        due(36, "a step too great", Checks.ARGUMENT, () -> land.corner(0, -1, 1000, 0));
        due(36, "a step too small", Checks.ARGUMENT, () -> land.corner(0, -1, -1000, 0));
        due(36, "the other step too great", Checks.ARGUMENT, () -> land.corner(0, -1, 0, 1000));
        due(36, "the other step too small", Checks.ARGUMENT, () -> land.corner(0, -1, 0, -1000));
        due(36, "the index first", Checks.INDEX, () -> land.corner(0, 2, 1000, 0));
        for (int count = 2; count < 10; count++) {
            int corners = count + 1;
            due(36, "up to 10", corners, () -> land.corner(0, -1, 1, 1));
        }
        due(36, "an eleventh", Checks.STATE, () -> land.corner(0, -1, 0, 0));
        due(36, "the argument first", Checks.ARGUMENT, () -> land.corner(0, -1, 0, 1000));
        due(36, "the other deed has room", 2, () -> land.corner(1, -1, 0, 0));
        due(37, "the tenth corner", -991, () -> land.placeOf(0, 0, 9, 0));
    }

    private static void places() {
        Traversehall land = land(new int[][] {{10, 20}, {300, 400}});
        land.deed();
        due(37, "no such corner", Checks.INDEX, () -> land.placeOf(0, 0, 0, 0));
        land.corner(0, 0, 7, 7);
        land.corner(0, -1, 5, -6);
        land.corner(0, 1, 0, 0);
        land.corner(0, 2, 1, 2);
        int[][] want = {{10, 20}, {15, 14}, {300, 400}, {301, 402}};
        for (int corner = 0; corner < want.length; corner++) {
            int number = corner;
            due(37, "along the axis 0", want[corner][0], () -> land.placeOf(0, 0, number, 0));
            due(37, "along the axis 1", want[corner][1], () -> land.placeOf(0, 0, number, 1));
        }
        due(37, "the axis 2", Checks.INDEX, () -> land.placeOf(0, 0, 0, 2));
        due(37, "an axis below 0", Checks.INDEX, () -> land.placeOf(0, 0, 0, -1));
        due(37, "no such deed", Checks.INDEX, () -> land.placeOf(1, 0, 0, 0));
        due(37, "no such version", Checks.INDEX, () -> land.placeOf(0, 1, 0, 0));
        due(37, "a corner too many", Checks.INDEX, () -> land.placeOf(0, 0, 4, 0));
        due(37, "a corner below 0", Checks.INDEX, () -> land.placeOf(0, 0, -1, 0));
        land.deed();
        land.corner(1, -1, 0, 0);
        land.corner(1, 0, 0, 0);
        due(37, "the first corner has no monument", Checks.NONE, () -> land.placeOf(1, 0, 1, 0));
        due(37, "the index first", Checks.INDEX, () -> land.placeOf(1, 0, 2, 0));
        land.deed();
        land.corner(2, 2, 0, 0);
        due(37, "the first monument does not hang", Checks.NONE, () -> land.placeOf(2, 0, 0, 0));
    }

    /** A monument counts in those versions alone that have both its coordinates. */
    private static void placesByVersion() {
        Traversehall land = land(new int[][] {{0, 0}});
        land.deed();
        land.corner(0, 0, 0, 0);
        land.corner(0, 1, 3, 4);
        land.fix(1, 0, 50);
        land.fix(1, 2, 50);
        land.publish(0);
        land.fix(1, 1, 60);
        land.publish(0);
        land.release(1, 0);
        land.publish(0);
        due(37, "no coordinate", 3, () -> land.placeOf(0, 0, 1, 0));
        due(37, "one coordinate", 3, () -> land.placeOf(0, 1, 1, 0));
        due(37, "both coordinates", 50, () -> land.placeOf(0, 2, 1, 0));
        due(37, "both coordinates", 60, () -> land.placeOf(0, 2, 1, 1));
        due(37, "the other coordinate", 4, () -> land.placeOf(0, 3, 1, 1));
        land.addPoint();
        land.corner(0, 2, 1, 1);
        due(37, "a monument newer than the version", 51, () -> land.placeOf(0, 2, 2, 0));
    }

    private static void roundedPlaces() {
        Traversehall land = land(new int[][] {{0, 0}});
        land.observe(0, 0, 0, 1, 5, 1);
        land.observe(0, 0, 0, 1, 6, 1);
        land.observe(0, 1, 0, 1, -5, 1);
        land.observe(0, 1, 0, 1, -6, 1);
        land.publish(0);
        land.deed();
        land.corner(0, 1, 0, 0);
        due(37, "halves up", 6, () -> land.placeOf(0, 1, 0, 0));
        due(37, "halves up below 0", -5, () -> land.placeOf(0, 1, 0, 1));
    }

    private static void area() {
        Traversehall land = land(new int[][] {{0, 0}, {100, 0}, {0, 100}, {-4999, 4999}});
        land.deed();
        due(38, "no corners", Checks.NONE, () -> land.area(0, 0));
        land.corner(0, 0, 0, 0);
        due(38, "a single corner", 0, () -> land.area(0, 0));
        land.corner(0, 1, 0, 0);
        due(38, "two corners", 0, () -> land.area(0, 0));
        land.corner(0, 2, 0, 0);
        due(38, "a triangle", 10000, () -> land.area(0, 0));
        land.deed();
        land.corner(1, 0, 0, 0);
        land.corner(1, 2, 0, 0);
        land.corner(1, 1, 0, 0);
        due(38, "the other way round", 10000, () -> land.area(1, 0));
        land.deed();
        land.corner(2, 3, 0, 0);
        int[][] steps = {{0, 999}, {999, 0}, {999, 0}, {0, -999}, {0, -999}, {-999, 0}, {-999, 0}};
        for (int[] step : steps) {
            land.corner(2, -1, step[0], step[1]);
        }
        due(38, "a rectangle of steps", 2L * 1998 * 1998, () -> land.area(2, 0));
        land.deed();
        land.corner(3, -1, 0, 0);
        due(38, "no places", Checks.NONE, () -> land.area(3, 0));
        due(38, "no such deed", Checks.INDEX, () -> land.area(4, 0));
        due(38, "a deed below 0", Checks.INDEX, () -> land.area(-1, 0));
        due(38, "no such version", Checks.INDEX, () -> land.area(0, 1));
        due(38, "a version below 0", Checks.INDEX, () -> land.area(0, -1));
        due(38, "the greatest one", 2L * 9998 * 9998, () -> greatestArea());
    }

    private static long greatestArea() {
        Traversehall land = land(new int[][] {{-4999, -4999}, {4999, -4999}, {4999, 4999}, {-4999, 4999}});
        land.deed();
        for (int point = 0; point < 4; point++) {
            land.corner(0, point, 0, 0);
        }
        return land.area(0, 0);
    }

    private static void yields() {
        Traversehall land = land(new int[][] {{0, 0}, {100, 200}});
        land.deed();
        due(39, "no corners", Checks.NONE, () -> land.yields(0, 0));
        land.corner(0, 1, 999, 999);
        due(39, "not the first one", 0, () -> land.yields(0, 0));
        int[][] steps = {{-100, -200}, {-105, -205}, {-95, -195}, {-106, -200}, {-94, -200}, {-100, -206},
            {-100, -194}, {0, 0}};
        int[] yielding = {0, 0, 0, 1, 1, 1, 1, 1};
        for (int turn = 0; turn < steps.length; turn++) {
            int[] step = steps[turn];
            int number = turn;
            due(39, "by a step of " + step[0] + " and " + step[1], yielding[turn], () -> lone(step, number));
        }
        land.corner(0, 2, 500, 500);
        due(39, "a monument that does not hang", 0, () -> land.yields(0, 0));
        land.corner(0, 0, -600, -700);
        due(39, "where the steps lead", 0, () -> land.yields(0, 0));
        land.corner(0, 1, 0, 0);
        land.corner(0, -1, 0, 0);
        land.corner(0, 0, 0, 0);
        due(39, "two of them", 2, () -> land.yields(0, 0));
        land.deed();
        land.corner(1, 2, 0, 0);
        due(39, "no places", Checks.NONE, () -> land.yields(1, 0));
        due(39, "no such deed", Checks.INDEX, () -> land.yields(2, 0));
        due(39, "no such version", Checks.INDEX, () -> land.yields(0, 1));
        due(39, "a version below 0", Checks.INDEX, () -> land.yields(0, -1));
    }

    /** How many yield of two corners, the second at 0, 0, and told by a step from 100, 200. */
    private static int lone(int[] step, int turn) {
        Traversehall land = land(new int[][] {{0, 0}, {100, 200}});
        for (int deed = 0; deed <= turn % 8; deed++) {
            land.deed();
        }
        land.corner(turn % 8, 1, 0, 0);
        land.corner(turn % 8, 0, step[0], step[1]);
        return land.yields(turn % 8, 0);
    }
}
