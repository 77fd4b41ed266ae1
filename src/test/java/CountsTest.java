import java.lang.reflect.Array;
import java.lang.reflect.Field;

/** Promises 40 to 43: masked observations, the share in use, the mean told, and soundness. */
public final class CountsTest {
    private static final Checks CHECKS = new Checks();

    public static void main(String[] args) {
        masked();
        usedShare();
        meanTold();
        isSound();
        isSoundAfterAll();
        isNotSound();
        CHECKS.end();
    }

    private static void due(int promise, String what, Object want, Checks.Call call) {
        CHECKS.due(promise, what, want, call);
    }

    private static void masked() {
        Traversehall land = Checks.land(2);
        due(40, "none told", 0, () -> land.masked());
        land.observe(0, 0, 0, 1, 1, 1);
        land.observe(4, 2, 0, 1, 1, 1);
        due(40, "none masked", 0, () -> land.masked());
        land.mask(1, true);
        due(40, "one masked", 1, () -> land.masked());
        land.mask(1, true);
        due(40, "masked twice", 1, () -> land.masked());
        land.mask(0, true);
        due(40, "both masked", 2, () -> land.masked());
        land.mask(1, false);
        due(40, "masked no longer", 1, () -> land.masked());
    }

    private static void usedShare() {
        Traversehall land = Checks.land(3);
        land.fix(0, 0, 0);
        due(41, "none told", Checks.ARITHMETIC, () -> land.usedShare());
        land.observe(0, 0, 1, 2, 1, 1);
        due(41, "none in use", 0f, () -> land.usedShare());
        land.observe(4, 0, 0, 1, 1, 1);
        land.observe(0, 1, 0, 1, 1, 1);
        due(41, "one of three", 1f / 3f, () -> land.usedShare());
        land.fix(2, 1, 0);
        land.observe(0, 1, 1, 2, 1, 1);
        due(41, "three of four", 0.75f, () -> land.usedShare());
        land.mask(1, true);
        due(41, "masked ones are of all", 0.5f, () -> land.usedShare());
        land.mask(1, false);
        land.fix(1, 0, 0);
        due(41, "all", 1f, () -> land.usedShare());
    }

    private static void meanTold() {
        Traversehall land = Checks.land(2);
        due(42, "none told", Checks.ARITHMETIC, () -> land.meanTold());
        land.observe(0, 0, 0, 1, -999, 2);
        due(42, "an amount has no sign", 999.0, () -> land.meanTold());
        land.observe(1, 1, 0, 1, 0, 1);
        land.observe(2, 2, 0, 1, 2, 1);
        due(42, "the mean of three", 1001.0 / 3.0, () -> land.meanTold());
        land.mask(0, true);
        due(42, "a masked one told, too", 1001.0 / 3.0, () -> land.meanTold());
    }

    private static void isSound() {
        Traversehall land = new Traversehall();
        due(43, "a new object", true, () -> land.isSound());
        for (int point = 0; point < 4; point++) {
            land.addPoint();
        }
        due(43, "points alone", true, () -> land.isSound());
        land.fix(3, 2, 44);
        land.observe(4, 2, 3, 0, 17, 2);
        land.observe(4, 2, 0, 1, 19, 1);
        land.observe(4, 2, 1, 3, -35, 1);
        land.observe(4, 2, 1, 2, 100, 1);
        due(43, "a ring", true, () -> land.isSound());
        land.publish(4);
        land.mask(1, true);
        land.fix(3, 2, 45);
        due(43, "a version of what stood then", true, () -> land.isSound());
        land.release(3, 2);
        due(43, "nothing hangs any more", true, () -> land.isSound());
        land.fix(1, 2, 0);
        land.addPoint();
        land.publish(4);
        due(43, "another version", true, () -> land.isSound());
        due(43, "nothing is changed by looking", 1, () -> land.masked());
    }

    /** All 60 observations and all 12 versions, the fixed points others in each. */
    private static void isSoundAfterAll() {
        Traversehall land = Checks.land(6);
        for (int count = 0; count < 60; count++) {
            int from = count % 6;
            int to = (from + 1 + count / 6 % 5) % 6;
            land.observe(count / 10 % 5, count / 50, from, to, count * 31 % 1999 - 999, 1 + count % 2);
        }
        for (int version = 0; version < 12; version++) {
            int point = version % 6;
            land.fix(point, 0, version * 777 - 4000);
            land.fix((point + 3) % 6, 0, 4000 - version * 77);
            land.fix(point, 1, version);
            land.publish(version % 5);
            land.release(point, 0);
            land.mask(version * 5, true);
            due(43, "version by version", true, () -> land.isSound());
        }
    }

    /** No run of calls makes a version unsound: the test reaches into the archive to see that it is looked at. */
    private static void isNotSound() {
        int[][] versionAxisPoint = {{0, 0, 1}, {1, 2, 1}, {2, 1, 0}, {2, 2, 2}};
        for (int[] at : versionAxisPoint) {
            int spot = (at[0] * 3 + at[1]) * 6 + at[2];
            due(43, "another top kept", false, () -> isSoundWith("tops", spot, 12345L));
            due(43, "another bottom kept", false, () -> isSoundWith("bottoms", spot, 7L));
            due(43, "no coordinate kept", false, () -> isSoundWith("bottoms", spot, 0L));
        }
        due(43, "one more coordinate kept", false, () -> isSoundWith("bottoms", 3, 1L));
        due(43, "nothing to rest on", false, () -> isSoundWith("restedOn", 1, 0L));
        due(43, "what was kept", true, () -> isSoundWith("tops", 0, 5L));
    }

    private static boolean isSoundWith(String name, int index, long value) {
        Traversehall land = Checks.land(4);
        for (int version = 0; version < 3; version++) {
            for (int axis = 0; axis < 3; axis++) {
                land.fix(0, axis, 5);
                land.observe(version, axis, 0, 1, 8, 1);
                land.observe(version, axis, 1, 2, 8, 1);
                land.observe(version, axis, 2, 0, 2, 2);
            }
            land.publish(version);
        }
        try {
            Field archive = Traversehall.class.getDeclaredField("archive");
            archive.setAccessible(true);
            Field kept = archive.get(land).getClass().getDeclaredField(name);
            kept.setAccessible(true);
            Array.setLong(kept.get(archive.get(land)), index, value);
        } catch (ReflectiveOperationException e) {
            throw new IllegalStateException(e);
        }
        return land.isSound();
    }
}
