/** Promises 25 to 34: versions, what they rest on, whether they are fresh, and points that moved. */
public final class ArchiveTest {
    private static final Checks CHECKS = new Checks();

    public static void main(String[] args) {
        publish();
        coordinates();
        neverChanges();
        rests();
        isFresh();
        isFreshAlongAllAxes();
        moves();
        moved();
        wrongVersions();
        CHECKS.end();
    }

    private static void due(int promise, String what, Object want, Checks.Call call) {
        CHECKS.due(promise, what, want, call);
    }

    private static void publish() {
        Traversehall land = new Traversehall();
        for (int count = 0; count < 12; count++) {
            int number = count;
            due(25, "a version's number", number, () -> land.publish(number % 5));
        }
        due(25, "a thirteenth version", Checks.STATE, () -> land.publish(0));
        due(25, "the index first", Checks.INDEX, () -> land.publish(5));
        due(25, "an epoch below 0", Checks.INDEX, () -> land.publish(-1));
        for (int count = 0; count < 12; count++) {
            int number = count;
            due(26, "a version's epoch", number % 5, () -> land.epochOf(number));
        }
        due(26, "no such version", Checks.INDEX, () -> land.epochOf(12));
        due(26, "a version below 0", Checks.INDEX, () -> land.epochOf(-1));
    }

    private static void coordinates() {
        Traversehall land = Checks.land(3);
        land.fix(0, 0, -10);
        land.fix(1, 2, 7);
        land.observe(3, 0, 0, 1, 1, 1);
        land.observe(3, 0, 0, 1, 4, 1);
        land.observe(3, 2, 2, 1, 5, 2);
        due(25, "the first version", 0, () -> land.publish(3));
        due(27, "halves up", -7, () -> land.published(0, 0, 1));
        CHECKS.dueFraction(28, "a half", -15, 2, () -> land.publishedTop(0, 0, 1), () -> land.publishedBottom(0, 0, 1));
        CHECKS.dueFraction(29, "a fixed point", -10, 1,
                () -> land.publishedTop(0, 0, 0), () -> land.publishedBottom(0, 0, 0));
        due(27, "along the axis 2", 2, () -> land.published(0, 2, 2));
        due(27, "a point that does not hang", Checks.NONE, () -> land.published(0, 0, 2));
        due(28, "a point that does not hang", Checks.NONE, () -> land.publishedTop(0, 1, 0));
        due(29, "a point that does not hang", Checks.NONE, () -> land.publishedBottom(0, 2, 0));
        land.addPoint();
        due(27, "a point that is newer", Checks.NONE, () -> land.published(0, 0, 3));
        due(25, "a version of another epoch", 1, () -> land.publish(2));
        due(27, "nothing told there", Checks.NONE, () -> land.published(1, 0, 1));
        due(28, "but fixed points", 7, () -> land.publishedTop(1, 2, 1));
    }

    private static void neverChanges() {
        Traversehall land = Checks.land(2);
        land.fix(0, 0, 3);
        land.observe(0, 0, 0, 1, 1, 1);
        land.publish(0);
        land.observe(0, 0, 0, 1, 8, 1);
        land.fix(1, 1, 1);
        due(27, "as it was", 4, () -> land.published(0, 0, 1));
        due(28, "nothing comes", Checks.NONE, () -> land.publishedTop(0, 1, 1));
        land.mask(0, true);
        land.release(0, 0);
        due(27, "still as it was", 4, () -> land.published(0, 0, 1));
        due(29, "nothing goes", 1, () -> land.publishedBottom(0, 0, 0));
        due(30, "it rests on what it did", true, () -> land.rests(0, 0));
    }

    private static void rests() {
        Traversehall land = Checks.land(4);
        land.fix(0, 0, 3);
        land.fix(0, 2, 3);
        land.observe(0, 0, 0, 1, 1, 1);
        land.observe(0, 0, 0, 1, 2, 1);
        land.observe(0, 0, 2, 3, 1, 1);
        land.observe(0, 2, 0, 1, 1, 1);
        land.observe(1, 0, 0, 1, 1, 1);
        land.mask(1, true);
        land.publish(0);
        land.publish(1);
        land.observe(0, 0, 0, 1, 1, 1);
        due(30, "in use", true, () -> land.rests(0, 0));
        due(30, "masked", false, () -> land.rests(0, 1));
        due(30, "not hanging", false, () -> land.rests(0, 2));
        due(30, "of another axis", true, () -> land.rests(0, 3));
        due(30, "of another epoch", false, () -> land.rests(0, 4));
        due(30, "of its epoch", true, () -> land.rests(1, 4));
        due(30, "told later", false, () -> land.rests(0, 5));
        land.mask(0, true);
        land.mask(1, false);
        due(30, "masked later", true, () -> land.rests(0, 0));
        due(30, "in use later", false, () -> land.rests(0, 1));
        due(30, "no such version", Checks.INDEX, () -> land.rests(2, 0));
        due(30, "no such observation", Checks.INDEX, () -> land.rests(0, 6));
        due(30, "an observation below 0", Checks.INDEX, () -> land.rests(0, -1));
        land.fix(0, 1, 0);
        for (int count = 6; count < 50; count++) {
            // 40 to 49 are of the epoch 4 and the axis 1.
            land.observe(count / 10, count / 10 % 3, 0, 1, 1, 1);
        }
        land.publish(4);
        due(30, "a high number", true, () -> land.rests(2, 49));
        due(30, "a low number beside it", false, () -> land.rests(2, 17));
    }

    private static void isFresh() {
        Traversehall land = Checks.land(3);
        land.fix(0, 0, 3);
        land.observe(0, 0, 0, 1, 10, 1);
        land.publish(0);
        due(31, "nothing changed", true, () -> land.isFresh(0));
        land.observe(0, 0, 0, 1, 10, 2);
        due(31, "another observation, the same coordinates", true, () -> land.isFresh(0));
        land.observe(0, 0, 0, 1, 11, 2);
        due(31, "another coordinate", false, () -> land.isFresh(0));
        land.mask(2, true);
        due(31, "it is masked", true, () -> land.isFresh(0));
        land.observe(0, 0, 1, 2, 1, 1);
        due(31, "another point that hangs", false, () -> land.isFresh(0));
        land.mask(3, true);
        land.observe(1, 0, 0, 1, 99, 1);
        due(31, "another epoch", true, () -> land.isFresh(0));
        land.fix(1, 0, 13);
        due(31, "fixed where it was", true, () -> land.isFresh(0));
        land.release(0, 0);
        due(31, "hung on another point", true, () -> land.isFresh(0));
        land.release(1, 0);
        due(31, "nothing hangs", false, () -> land.isFresh(0));
        due(31, "no such version", Checks.INDEX, () -> land.isFresh(1));
    }

    private static void isFreshAlongAllAxes() {
        Traversehall land = Checks.land(2);
        land.publish(2);
        for (int turn = 0; turn < 3; turn++) {
            int axis = turn;
            land.fix(1, axis, 0);
            due(31, "fixed along an axis", false, () -> land.isFresh(0));
            land.release(1, axis);
            due(31, "released", true, () -> land.isFresh(0));
        }
    }

    private static void moves() {
        Traversehall land = Checks.land(3);
        land.fix(0, 1, 3);
        land.observe(0, 1, 0, 1, 10, 1);
        land.observe(0, 1, 0, 1, 11, 2);
        land.publish(0);
        land.fix(2, 1, 50);
        land.observe(1, 1, 0, 1, 10, 1);
        land.observe(1, 1, 0, 1, 11, 1);
        land.publish(1);
        CHECKS.dueFraction(32, "from the first to the second", -1, 6,
                () -> land.movedTop(1, 1, 0, 1), () -> land.movedBottom(1, 1, 0, 1));
        CHECKS.dueFraction(33, "from the second to the first", 1, 6,
                () -> land.movedTop(1, 1, 1, 0), () -> land.movedBottom(1, 1, 1, 0));
        CHECKS.dueFraction(33, "not at all", 0, 1,
                () -> land.movedTop(1, 1, 0, 0), () -> land.movedBottom(1, 1, 0, 0));
        due(32, "none in the first", Checks.NONE, () -> land.movedTop(2, 1, 0, 1));
        due(33, "none in the second", Checks.NONE, () -> land.movedBottom(2, 1, 1, 0));
        due(32, "none along the axis", Checks.NONE, () -> land.movedTop(1, 0, 0, 1));
        int[][] wrong = {{3, 1, 0, 1}, {-1, 1, 0, 1}, {1, 3, 0, 1}, {1, -1, 0, 1}, {1, 1, 2, 1}, {1, 1, 0, 2},
            {1, 1, -1, 0}, {1, 1, 0, -1}, {2, 1, 0, 2}};
        for (int[] at : wrong) {
            due(32, "no such point, axis or version", Checks.INDEX, () -> land.movedTop(at[0], at[1], at[2], at[3]));
            due(33, "no such point, axis or version", Checks.INDEX, () -> land.movedBottom(at[0], at[1], at[2], at[3]));
        }
    }

    private static void moved() {
        Traversehall land = Checks.land(6);
        for (int point = 0; point < 5; point++) {
            land.fix(point, 2, 100 * point);
        }
        land.publish(0);
        land.fix(0, 2, 3);
        land.fix(1, 2, 97);
        land.fix(2, 2, 204);
        land.release(3, 2);
        land.fix(5, 2, 4999);
        land.publish(0);
        due(34, "more than 0", 3, () -> land.moved(2, 0, 1, 0));
        due(34, "more than 2, either way", 3, () -> land.moved(2, 0, 1, 2));
        due(34, "more than 3", 1, () -> land.moved(2, 0, 1, 3));
        due(34, "more than 4", 0, () -> land.moved(2, 1, 0, 4));
        due(34, "another axis", 0, () -> land.moved(0, 0, 1, 0));
        due(34, "the greatest limit", 0, () -> land.moved(2, 0, 1, 9999));
        due(34, "too great a limit", Checks.ARGUMENT, () -> land.moved(2, 0, 1, 10000));
        due(34, "a limit below 0", Checks.ARGUMENT, () -> land.moved(2, 0, 1, -1));
        due(34, "no such axis", Checks.INDEX, () -> land.moved(3, 0, 1, 0));
        due(34, "no such first version", Checks.INDEX, () -> land.moved(2, 2, 1, 0));
        due(34, "no such second version", Checks.INDEX, () -> land.moved(2, 0, 2, 0));
        due(34, "the index first", Checks.INDEX, () -> land.moved(2, 0, -1, -1));
        Traversehall half = Checks.land(2);
        half.fix(0, 0, 0);
        half.publish(0);
        half.observe(0, 0, 0, 1, 0, 1);
        half.publish(0);
        half.observe(0, 0, 0, 1, 5, 1);
        half.publish(0);
        due(34, "two and a half is more than 2", 1, () -> half.moved(0, 1, 2, 2));
        due(34, "and not more than 3", 0, () -> half.moved(0, 1, 2, 3));
        due(34, "one has no coordinate", 0, () -> half.moved(0, 0, 2, 0));
    }

    private static void wrongVersions() {
        Traversehall land = Checks.land(2);
        land.fix(0, 0, 1);
        land.publish(0);
        int[][] wrong = {{1, 0, 0}, {-1, 0, 0}, {0, 3, 0}, {0, -1, 0}, {0, 0, 2}, {0, 0, -1},
            {Integer.MAX_VALUE, 0, 0}, {0, Integer.MIN_VALUE, 0}, {0, 0, Integer.MIN_VALUE}};
        for (int[] at : wrong) {
            due(27, "no such version, axis or point", Checks.INDEX, () -> land.published(at[0], at[1], at[2]));
            due(28, "no such version, axis or point", Checks.INDEX, () -> land.publishedTop(at[0], at[1], at[2]));
            due(29, "no such version, axis or point", Checks.INDEX, () -> land.publishedBottom(at[0], at[1], at[2]));
        }
    }
}
