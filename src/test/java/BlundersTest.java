/** Promises 20 to 24: needed observations, drops, the worst one, cleaning. */
public final class BlundersTest {
    private static final Checks CHECKS = new Checks();

    public static void main(String[] args) {
        isNeeded();
        drops();
        worst();
        worstOfSeveral();
        clean();
        cleanLimit();
        cleanFindsAnew();
        cleanAll();
        CHECKS.end();
    }

    private static void due(int promise, String what, Object want, Checks.Call call) {
        CHECKS.due(promise, what, want, call);
    }

    private static void isNeeded() {
        Traversehall land = Checks.land(5);
        land.fix(0, 0, 0);
        land.observe(0, 0, 0, 1, 5, 1);
        land.observe(0, 0, 1, 2, 5, 1);
        land.observe(0, 0, 3, 4, 5, 1);
        due(20, "the only way", true, () -> land.isNeeded(0));
        due(20, "the only way of another", true, () -> land.isNeeded(1));
        due(20, "not in use", Checks.NONE, () -> land.isNeeded(2));
        land.observe(0, 0, 2, 0, 5, 1);
        due(20, "in a ring", false, () -> land.isNeeded(0));
        land.mask(3, true);
        due(20, "the ring is open", true, () -> land.isNeeded(0));
        due(20, "masked", Checks.NONE, () -> land.isNeeded(3));
        land.fix(2, 0, 11);
        due(20, "between two fixed points", false, () -> land.isNeeded(0));
        land.fix(1, 0, 5);
        due(20, "both fixed", false, () -> land.isNeeded(0));
        land.release(0, 0);
        due(20, "the released one needs it", true, () -> land.isNeeded(0));
        land.observe(0, 0, 1, 0, -4, 1);
        due(20, "told twice", false, () -> land.isNeeded(0));
        due(20, "no such observation", Checks.INDEX, () -> land.isNeeded(5));
        due(20, "an observation below 0", Checks.INDEX, () -> land.isNeeded(-1));
    }

    private static void drops() {
        Traversehall land = Checks.land(4);
        land.fix(0, 0, 0);
        land.observe(2, 0, 0, 1, 10, 1);
        land.observe(2, 0, 0, 1, 13, 2);
        land.observe(2, 0, 1, 2, 7, 1);
        // The sum is 1 * 4 + 2 * 1 = 6, and nothing without either of both.
        CHECKS.dueFraction(21, "the first", 6, 1, () -> land.dropTop(0), () -> land.dropBottom(0));
        due(21, "needed", Checks.UNSUPPORTED, () -> land.dropTop(2));
        due(22, "needed", Checks.UNSUPPORTED, () -> land.dropBottom(2));
        land.observe(2, 0, 1, 0, -14, 1);
        // Without the first: weights 2 and 1 at 13 and 14, the sum 2/3; with all: 10, 13, 13, 14, the sum 9.
        CHECKS.dueFraction(22, "the first of three", 25, 3, () -> land.dropTop(0), () -> land.dropBottom(0));
        // Without the second: 10 and 14, the sum 8.
        CHECKS.dueFraction(21, "the second of three", 1, 1, () -> land.dropTop(1), () -> land.dropBottom(1));
        land.fix(2, 0, 20);
        CHECKS.dueFraction(22, "to a fixed point", 1, 5, () -> land.dropTop(2), () -> land.dropBottom(2));
        land.mask(2, true);
        due(21, "masked", Checks.NONE, () -> land.dropTop(2));
        due(22, "masked", Checks.NONE, () -> land.dropBottom(2));
        land.fix(1, 0, 13);
        CHECKS.dueFraction(22, "nothing", 0, 1, () -> land.dropTop(1), () -> land.dropBottom(1));
        CHECKS.dueFraction(21, "between fixed points", 9, 1, () -> land.dropTop(0), () -> land.dropBottom(0));
        due(21, "no such observation", Checks.INDEX, () -> land.dropTop(4));
        due(22, "no such observation", Checks.INDEX, () -> land.dropBottom(4));
        due(22, "an observation below 0", Checks.INDEX, () -> land.dropBottom(-1));
    }

    private static void worst() {
        Traversehall land = Checks.land(3);
        due(23, "nothing told", Checks.NONE, () -> land.worst(0, 0));
        land.fix(0, 0, 0);
        land.observe(0, 0, 0, 1, 10, 1);
        due(23, "a needed one", Checks.NONE, () -> land.worst(0, 0));
        land.observe(0, 0, 0, 1, 10, 1);
        due(23, "no drop above 0", Checks.NONE, () -> land.worst(0, 0));
        land.observe(0, 0, 0, 1, 16, 1);
        due(23, "the one that is off", 2, () -> land.worst(0, 0));
        land.mask(2, true);
        due(23, "it is masked", Checks.NONE, () -> land.worst(0, 0));
        land.mask(2, false);
        due(23, "another epoch", Checks.NONE, () -> land.worst(1, 0));
        due(23, "no such epoch", Checks.INDEX, () -> land.worst(5, 0));
        due(23, "an epoch below 0", Checks.INDEX, () -> land.worst(-1, 0));
        due(23, "no such axis", Checks.INDEX, () -> land.worst(0, 3));
    }

    private static void worstOfSeveral() {
        Traversehall land = Checks.land(4);
        land.fix(0, 1, 0);
        land.observe(4, 1, 2, 3, 9, 1);
        land.observe(4, 1, 0, 1, 10, 1);
        land.observe(4, 1, 0, 1, 16, 1);
        due(23, "of two alike the lower number", 1, () -> land.worst(4, 1));
        // A greater residual of weight 1 drops less than a smaller one of weight 2.
        land.fix(1, 1, 10);
        land.observe(4, 1, 1, 0, -15, 2);
        due(23, "the greater drop, not the greater residual", 3, () -> land.worst(4, 1));
        land.observe(4, 1, 0, 1, 15, 2);
        due(23, "again the lower number", 3, () -> land.worst(4, 1));
    }

    private static void clean() {
        Traversehall land = Checks.land(2);
        land.fix(0, 0, 0);
        due(24, "nothing told", 0, () -> land.clean(0, 0, 0));
        int[] told = {10, 10, 10, 40, -70};
        for (int value : told) {
            land.observe(0, 0, 0, 1, value, 1);
        }
        due(24, "both blunders", 2, () -> land.clean(0, 0, 1));
        due(24, "they are masked", true, () -> land.mask(3, true) && land.mask(4, true));
        due(24, "two of them", 2, () -> land.masked());
        due(24, "nothing is left to clean", 0, () -> land.clean(0, 0, 0));
        land.observe(1, 0, 0, 1, 1, 1);
        land.observe(1, 0, 0, 1, 2, 1);
        due(24, "another epoch by itself", 1, () -> land.clean(1, 0, 0));
        due(24, "the lower one of both", true, () -> land.isInUse(6));
        due(24, "a limit below 0", Checks.ARGUMENT, () -> land.clean(0, 0, -1));
        due(24, "too great a limit", Checks.ARGUMENT, () -> land.clean(0, 0, 10000));
        due(24, "the greatest limit", 0, () -> land.clean(0, 0, 9999));
        due(24, "no such epoch", Checks.INDEX, () -> land.clean(5, 0, 0));
        due(24, "no such axis", Checks.INDEX, () -> land.clean(0, -1, 0));
        due(24, "the index first", Checks.INDEX, () -> land.clean(0, 3, -1));
    }

    /** One spare observation, and the least sum 2: not greater than the limit 2. */
    private static void cleanLimit() {
        Traversehall land = Checks.land(2);
        land.fix(0, 0, 0);
        land.observe(0, 0, 0, 1, 10, 1);
        land.observe(0, 0, 0, 1, 12, 1);
        due(24, "not greater than the limit", 0, () -> land.clean(0, 0, 2));
        due(24, "nothing is masked", 0, () -> land.masked());
        due(24, "greater than the limit", 1, () -> land.clean(0, 0, 1));
    }

    /** The limit counts once for each spare observation that is left. */
    private static void cleanFindsAnew() {
        Traversehall land = Checks.land(2);
        land.fix(0, 0, 0);
        land.fix(1, 0, 0);
        land.observe(0, 0, 0, 1, 6, 1);
        land.observe(0, 0, 0, 1, 5, 1);
        land.observe(0, 0, 0, 1, 3, 1);
        land.observe(0, 0, 0, 1, 1, 1);
        // The sums 71 of 4, 35 of 3, 10 of 2 and 1 of 1.
        due(24, "down to 10 of 2", 2, () -> land.clean(0, 0, 5));
        due(24, "the greatest two", 2, () -> land.worst(0, 0));
        due(24, "10 is more than 4 times 2", 1, () -> land.clean(0, 0, 4));
        due(24, "down to nothing", 1, () -> land.clean(0, 0, 0));
        due(24, "no drop above 0 is left", Checks.NONE, () -> land.worst(0, 0));
    }

    /** Ten observations between fixed points: none is needed, and each one is off. */
    private static void cleanAll() {
        Traversehall land = Checks.land(2);
        land.fix(0, 0, 0);
        land.fix(1, 0, 0);
        for (int count = 1; count <= 10; count++) {
            land.observe(0, 0, 0, 1, count, 1);
        }
        due(24, "all ten", 10, () -> land.clean(0, 0, 0));
        due(24, "none is in use", 0, () -> land.spare(0, 0));
    }
}
