/** Promises 1 to 19: points, observations, nets, coordinates, doubts, residuals and sums. */
public final class NetsTest {
    private static final Checks CHECKS = new Checks();

    public static void main(String[] args) {
        newObject();
        addPoint();
        fix();
        release();
        observe();
        observeLimits();
        mask();
        isInUse();
        hangs();
        parts();
        spare();
        coordinates();
        rounded();
        doubts();
        residuals();
        sums();
        wrongNets();
        severalParts();
        greatNumbers();
        CHECKS.end();
    }

    private static void due(int promise, String what, Object want, Checks.Call call) {
        CHECKS.due(promise, what, want, call);
    }

    private static void newObject() {
        Traversehall land = new Traversehall();
        due(1, "no parts", 0, () -> land.parts(0, 0));
        due(1, "no points", Checks.INDEX, () -> land.hangs(0, 0, 0));
        due(1, "no observations", Checks.INDEX, () -> land.isInUse(0));
        due(1, "no versions", Checks.INDEX, () -> land.epochOf(0));
        due(1, "no deeds", Checks.INDEX, () -> land.corner(0, -1, 0, 0));
        due(1, "none masked", 0, () -> land.masked());
    }

    private static void addPoint() {
        Traversehall land = new Traversehall();
        for (int point = 0; point < 6; point++) {
            int number = point;
            due(2, "a point's number", number, () -> land.addPoint());
        }
        due(2, "a seventh point", Checks.STATE, () -> land.addPoint());
        due(2, "six points are there", 6, () -> land.parts(4, 2));
    }

    private static void fix() {
        Traversehall land = Checks.land(2);
        due(3, "not fixed before", false, () -> land.fix(0, 0, 4999));
        due(3, "fixed before", true, () -> land.fix(0, 0, -4999));
        due(3, "the new coordinate", -4999, () -> land.top(0, 0, 0));
        due(3, "another axis by itself", false, () -> land.fix(0, 1, 7));
        due(3, "another point by itself", false, () -> land.fix(1, 0, 8));
        due(3, "the axis 2", false, () -> land.fix(1, 2, 0));
        due(3, "in every epoch", 8, () -> land.top(4, 0, 1));
        due(3, "no such point", Checks.INDEX, () -> land.fix(2, 0, 0));
        due(3, "a point below 0", Checks.INDEX, () -> land.fix(-1, 0, 0));
        due(3, "no such axis", Checks.INDEX, () -> land.fix(0, 3, 0));
        due(3, "an axis below 0", Checks.INDEX, () -> land.fix(0, -1, 0));
        due(3, "the index first", Checks.INDEX, () -> land.fix(0, 3, 5000));
        due(3, "too great", Checks.ARGUMENT, () -> land.fix(0, 0, 5000));
        due(3, "too small", Checks.ARGUMENT, () -> land.fix(0, 0, -5000));
        due(3, "the least int", Checks.ARGUMENT, () -> land.fix(0, 0, Integer.MIN_VALUE));
        due(3, "nothing changed", -4999, () -> land.top(0, 0, 0));
        due(3, "not fixed by a throw", Checks.NONE, () -> land.release(0, 2));
    }

    private static void release() {
        Traversehall land = Checks.land(2);
        land.fix(0, 0, 12);
        land.fix(0, 1, 13);
        due(4, "the coordinate", 12, () -> land.release(0, 0));
        due(4, "no longer fixed", Checks.NONE, () -> land.release(0, 0));
        due(4, "hangs no longer", false, () -> land.hangs(0, 0, 0));
        due(4, "the other axis stays", 13, () -> land.release(0, 1));
        due(4, "never fixed", Checks.NONE, () -> land.release(1, 0));
        due(4, "no such point", Checks.INDEX, () -> land.release(2, 0));
        due(4, "no such axis", Checks.INDEX, () -> land.release(0, 3));
        due(4, "an axis below 0", Checks.INDEX, () -> land.release(0, -1));
        due(4, "fixed anew", false, () -> land.fix(0, 0, 1));
    }

    private static void observe() {
        Traversehall land = Checks.land(3);
        due(5, "the first one", 0, () -> land.observe(0, 0, 0, 1, -999, 1));
        due(5, "the second one", 1, () -> land.observe(4, 2, 2, 0, 999, 2));
        land.fix(0, 0, 1000);
        due(5, "to less from", 1, () -> land.top(0, 0, 1));
        due(5, "no such epoch", Checks.INDEX, () -> land.observe(5, 0, 0, 1, 0, 1));
        due(5, "an epoch below 0", Checks.INDEX, () -> land.observe(-1, 0, 0, 1, 0, 1));
        due(5, "no such axis", Checks.INDEX, () -> land.observe(0, 3, 0, 1, 0, 1));
        due(5, "no such point from", Checks.INDEX, () -> land.observe(0, 0, 3, 1, 0, 1));
        due(5, "no such point to", Checks.INDEX, () -> land.observe(0, 0, 1, 3, 0, 1));
        due(5, "a point below 0", Checks.INDEX, () -> land.observe(0, 0, 1, -1, 0, 1));
        due(5, "both the same, none there", Checks.INDEX, () -> land.observe(0, 0, 3, 3, 0, 1));
        due(5, "both the same", Checks.ARGUMENT, () -> land.observe(0, 0, 1, 1, 0, 1));
        due(5, "a value too great", Checks.ARGUMENT, () -> land.observe(0, 0, 0, 1, 1000, 1));
        due(5, "a value too small", Checks.ARGUMENT, () -> land.observe(0, 0, 0, 1, -1000, 1));
        due(5, "the weight 0", Checks.ARGUMENT, () -> land.observe(0, 0, 0, 1, 0, 0));
        due(5, "the weight 3", Checks.ARGUMENT, () -> land.observe(0, 0, 0, 1, 0, 3));
        due(5, "the index first", Checks.INDEX, () -> land.observe(0, 0, 0, 3, 1000, 3));
        due(5, "nothing told by a throw", 2, () -> land.observe(0, 0, 0, 1, 0, 1));
    }

    private static void observeLimits() {
        Traversehall land = Checks.land(2);
        for (int count = 0; count < 10; count++) {
            land.observe(0, 0, 0, 1, count, 1);
        }
        due(5, "an eleventh of the net", Checks.STATE, () -> land.observe(0, 0, 0, 1, 0, 1));
        due(5, "the argument first", Checks.ARGUMENT, () -> land.observe(0, 0, 0, 1, 0, 3));
        land.mask(3, true);
        due(5, "masked ones are there, too", Checks.STATE, () -> land.observe(0, 0, 0, 1, 0, 1));
        for (int count = 10; count < 60; count++) {
            int number = count;
            due(5, "up to 60", number, () -> land.observe(number / 10 % 5, number / 50, 1, 0, 0, 2));
        }
        due(5, "the 61st", Checks.STATE, () -> land.observe(4, 2, 0, 1, 0, 1));
        due(5, "60 are there", true, () -> land.mask(59, true) || land.mask(59, false));
    }

    private static void mask() {
        Traversehall land = Checks.land(2);
        land.fix(0, 0, 0);
        land.observe(0, 0, 0, 1, 5, 1);
        land.observe(0, 0, 0, 1, 9, 1);
        due(6, "was not masked", false, () -> land.mask(0, true));
        due(6, "counts for nothing", 9, () -> land.top(0, 0, 1));
        due(6, "was masked", true, () -> land.mask(0, true));
        due(6, "was masked until now", true, () -> land.mask(0, false));
        due(6, "counts again", 7, () -> land.top(0, 0, 1));
        due(6, "was not masked any more", false, () -> land.mask(0, false));
        due(6, "no such observation", Checks.INDEX, () -> land.mask(2, true));
        due(6, "an observation below 0", Checks.INDEX, () -> land.mask(-1, true));
    }

    private static void isInUse() {
        Traversehall land = Checks.land(4);
        land.fix(0, 0, 0);
        land.observe(0, 0, 0, 1, 5, 1);
        land.observe(0, 0, 2, 3, 5, 1);
        land.observe(0, 1, 0, 1, 5, 1);
        due(7, "between points that hang", true, () -> land.isInUse(0));
        due(7, "between points that do not", false, () -> land.isInUse(1));
        due(7, "along an axis without fixed points", false, () -> land.isInUse(2));
        land.fix(3, 0, 1);
        due(7, "to a fixed point", true, () -> land.isInUse(1));
        land.fix(2, 0, 1);
        due(7, "between fixed points", true, () -> land.isInUse(1));
        land.mask(1, true);
        due(7, "masked", false, () -> land.isInUse(1));
        due(7, "no such observation", Checks.INDEX, () -> land.isInUse(3));
        due(7, "an observation below 0", Checks.INDEX, () -> land.isInUse(-1));
    }

    private static void hangs() {
        Traversehall land = Checks.land(6);
        land.fix(5, 1, 0);
        land.observe(2, 1, 0, 1, 5, 1);
        land.observe(2, 1, 4, 3, 5, 1);
        land.observe(2, 1, 4, 5, 5, 1);
        due(8, "a fixed point", true, () -> land.hangs(2, 1, 5));
        due(8, "joined to it", true, () -> land.hangs(2, 1, 4));
        due(8, "joined over another", true, () -> land.hangs(2, 1, 3));
        due(8, "in another part", false, () -> land.hangs(2, 1, 1));
        due(8, "alone", false, () -> land.hangs(2, 1, 2));
        due(8, "another epoch", false, () -> land.hangs(1, 1, 4));
        due(8, "a fixed one in another epoch", true, () -> land.hangs(1, 1, 5));
        due(8, "another axis", false, () -> land.hangs(2, 0, 5));
        land.mask(2, true);
        due(8, "without what joined it", false, () -> land.hangs(2, 1, 3));
        due(8, "no such epoch", Checks.INDEX, () -> land.hangs(5, 0, 0));
        due(8, "an epoch below 0", Checks.INDEX, () -> land.hangs(-1, 0, 0));
        due(8, "no such axis", Checks.INDEX, () -> land.hangs(0, 3, 0));
        due(8, "no such point", Checks.INDEX, () -> land.hangs(0, 0, 6));
        due(8, "a point below 0", Checks.INDEX, () -> land.hangs(0, 0, -1));
    }

    private static void parts() {
        Traversehall land = Checks.land(6);
        land.fix(0, 0, 1);
        land.fix(5, 0, 1);
        due(9, "all alone", 6, () -> land.parts(3, 0));
        land.observe(3, 0, 0, 1, 5, 1);
        land.observe(3, 0, 1, 0, 5, 1);
        due(9, "joined twice", 5, () -> land.parts(3, 0));
        land.observe(3, 0, 3, 4, 5, 1);
        due(9, "also without a fixed point", 4, () -> land.parts(3, 0));
        land.observe(3, 0, 4, 1, 5, 1);
        due(9, "over others", 3, () -> land.parts(3, 0));
        land.mask(3, true);
        due(9, "not by masked ones", 4, () -> land.parts(3, 0));
        due(9, "another axis", 6, () -> land.parts(3, 1));
        due(9, "another epoch", 6, () -> land.parts(2, 0));
        due(9, "no such epoch", Checks.INDEX, () -> land.parts(5, 0));
        due(9, "no such axis", Checks.INDEX, () -> land.parts(0, 3));
    }

    private static void spare() {
        Traversehall land = Checks.land(4);
        land.observe(0, 0, 0, 1, 5, 1);
        land.observe(0, 0, 0, 1, 6, 1);
        due(10, "nothing hangs", 0, () -> land.spare(0, 0));
        land.fix(0, 0, 1);
        due(10, "two for one point", 1, () -> land.spare(0, 0));
        land.observe(0, 0, 2, 3, 5, 1);
        land.observe(0, 0, 2, 3, 5, 1);
        due(10, "those not in use do not count", 1, () -> land.spare(0, 0));
        land.fix(1, 0, 1);
        due(10, "between fixed points", 2, () -> land.spare(0, 0));
        land.mask(1, true);
        due(10, "masked", 1, () -> land.spare(0, 0));
        due(10, "no such epoch", Checks.INDEX, () -> land.spare(5, 0));
        due(10, "no such axis", Checks.INDEX, () -> land.spare(0, 3));
    }

    /** A triangle with one fixed point: 0 at 100, the told ways 10, 20 and 33 (weight 2). */
    private static Traversehall triangle() {
        Traversehall land = Checks.land(4);
        land.fix(0, 1, 100);
        land.observe(3, 1, 0, 1, 10, 1);
        land.observe(3, 1, 2, 1, -20, 1);
        land.observe(3, 1, 0, 2, 33, 2);
        return land;
    }

    private static void coordinates() {
        Traversehall land = triangle();
        // Normal equations: 2a - b = 90, -a + 3b = 286 for a and b, the determinant is 5.
        CHECKS.dueFraction(11, "the point 1", 556, 5, () -> land.top(3, 1, 1), () -> land.bottom(3, 1, 1));
        CHECKS.dueFraction(12, "the point 2", 662, 5, () -> land.top(3, 1, 2), () -> land.bottom(3, 1, 2));
        CHECKS.dueFraction(11, "the fixed point", 100, 1, () -> land.top(3, 1, 0), () -> land.bottom(3, 1, 0));
        due(11, "does not hang", Checks.NONE, () -> land.top(3, 1, 3));
        due(12, "does not hang", Checks.NONE, () -> land.bottom(3, 1, 3));
        due(11, "another epoch", Checks.NONE, () -> land.top(2, 1, 1));
        land.fix(0, 1, -500);
        CHECKS.dueFraction(11, "below 0", -2444, 5, () -> land.top(3, 1, 1), () -> land.bottom(3, 1, 1));
        land.fix(2, 1, -465);
        CHECKS.dueFraction(12, "between fixed points", -975, 2, () -> land.top(3, 1, 1), () -> land.bottom(3, 1, 1));
        land.fix(2, 1, -470);
        CHECKS.dueFraction(12, "without a common divisor", -490, 1,
                () -> land.top(3, 1, 1), () -> land.bottom(3, 1, 1));
        land.fix(0, 1, 0);
        land.fix(2, 1, 10);
        CHECKS.dueFraction(12, "nothing has the bottom 1", 0, 1,
                () -> land.top(3, 1, 1), () -> land.bottom(3, 1, 1));
    }

    private static void rounded() {
        Traversehall land = Checks.land(2);
        land.fix(0, 0, 0);
        int[] told = {1, 3, -1, -3, 4, 0};
        int[] want = {1, 2, 0, -1, 2, 0};
        for (int turn = 0; turn < told.length; turn++) {
            int epoch = turn % 5;
            int axis = turn / 5;
            int value = told[turn];
            land.fix(0, axis, 0);
            land.observe(epoch, axis, 0, 1, value, 1);
            land.observe(epoch, axis, 0, 1, 0, 1);
            due(13, value + " halves", want[turn], () -> land.rounded(epoch, axis, 1));
        }
        Traversehall thirds = Checks.land(2);
        thirds.fix(0, 2, 0);
        thirds.observe(0, 2, 0, 1, 1, 1);
        thirds.observe(0, 2, 0, 1, 0, 2);
        thirds.observe(1, 2, 0, 1, 1, 2);
        thirds.observe(1, 2, 0, 1, 0, 1);
        thirds.observe(2, 2, 0, 1, -1, 1);
        thirds.observe(2, 2, 0, 1, 0, 2);
        thirds.observe(3, 2, 0, 1, -1, 2);
        thirds.observe(3, 2, 0, 1, 0, 1);
        due(13, "a third", 0, () -> thirds.rounded(0, 2, 1));
        due(13, "two thirds", 1, () -> thirds.rounded(1, 2, 1));
        due(13, "a third below 0", 0, () -> thirds.rounded(2, 2, 1));
        due(13, "two thirds below 0", -1, () -> thirds.rounded(3, 2, 1));
        due(13, "does not hang", Checks.NONE, () -> thirds.rounded(4, 2, 1));
        due(13, "a fixed one", 0, () -> thirds.rounded(4, 2, 0));
    }

    private static void doubts() {
        Traversehall land = triangle();
        CHECKS.dueFraction(14, "the point 1", 3, 5, () -> land.doubtTop(3, 1, 1), () -> land.doubtBottom(3, 1, 1));
        CHECKS.dueFraction(15, "the point 2", 2, 5, () -> land.doubtTop(3, 1, 2), () -> land.doubtBottom(3, 1, 2));
        CHECKS.dueFraction(15, "the fixed point", 0, 1,
                () -> land.doubtTop(3, 1, 0), () -> land.doubtBottom(3, 1, 0));
        due(14, "does not hang", Checks.NONE, () -> land.doubtTop(3, 1, 3));
        due(15, "does not hang", Checks.NONE, () -> land.doubtBottom(3, 1, 3));
        land.observe(3, 1, 2, 3, 0, 2);
        CHECKS.dueFraction(14, "the point 3", 9, 10, () -> land.doubtTop(3, 1, 3), () -> land.doubtBottom(3, 1, 3));
        land.mask(0, true);
        CHECKS.dueFraction(15, "without the first", 1, 2,
                () -> land.doubtTop(3, 1, 2), () -> land.doubtBottom(3, 1, 2));
        CHECKS.dueFraction(15, "1 is told by a bottom of 1", 1, 1,
                () -> land.doubtTop(3, 1, 3), () -> land.doubtBottom(3, 1, 3));
        land.fix(1, 1, 0);
        CHECKS.dueFraction(14, "also hung on another", 1, 3,
                () -> land.doubtTop(3, 1, 2), () -> land.doubtBottom(3, 1, 2));
    }

    private static void residuals() {
        Traversehall land = triangle();
        CHECKS.dueFraction(16, "the first", -6, 5, () -> land.residualTop(0), () -> land.residualBottom(0));
        CHECKS.dueFraction(17, "the second, told backward", 6, 5,
                () -> land.residualTop(1), () -> land.residualBottom(1));
        CHECKS.dueFraction(17, "the third", 3, 5, () -> land.residualTop(2), () -> land.residualBottom(2));
        land.observe(3, 1, 2, 3, 7, 1);
        CHECKS.dueFraction(17, "nothing", 0, 1, () -> land.residualTop(3), () -> land.residualBottom(3));
        land.fix(3, 1, 150);
        land.fix(2, 1, 140);
        CHECKS.dueFraction(16, "between fixed points", -3, 1, () -> land.residualTop(3), () -> land.residualBottom(3));
        land.mask(0, true);
        due(16, "masked", Checks.NONE, () -> land.residualTop(0));
        due(17, "masked", Checks.NONE, () -> land.residualBottom(0));
        land.observe(0, 0, 0, 1, 1, 1);
        due(16, "not hanging", Checks.NONE, () -> land.residualTop(4));
        due(16, "no such observation", Checks.INDEX, () -> land.residualTop(5));
        due(17, "no such observation", Checks.INDEX, () -> land.residualBottom(5));
        due(17, "an observation below 0", Checks.INDEX, () -> land.residualBottom(-1));
    }

    private static void sums() {
        Traversehall land = triangle();
        // 36/25 + 36/25 + 2 * 9/25
        CHECKS.dueFraction(18, "the least sum", 18, 5, () -> land.sumTop(3, 1), () -> land.sumBottom(3, 1));
        CHECKS.dueFraction(19, "nothing told", 0, 1, () -> land.sumTop(2, 1), () -> land.sumBottom(2, 1));
        land.mask(2, true);
        CHECKS.dueFraction(19, "nothing spare", 0, 1, () -> land.sumTop(3, 1), () -> land.sumBottom(3, 1));
        land.fix(2, 1, 104);
        land.fix(1, 1, 100);
        CHECKS.dueFraction(18, "of fixed points", 356, 1, () -> land.sumTop(3, 1), () -> land.sumBottom(3, 1));
        due(18, "no such epoch", Checks.INDEX, () -> land.sumTop(5, 0));
        due(18, "no such axis", Checks.INDEX, () -> land.sumTop(0, 3));
        due(19, "no such epoch", Checks.INDEX, () -> land.sumBottom(-1, 0));
        due(19, "no such axis", Checks.INDEX, () -> land.sumBottom(0, -1));
    }

    private static void wrongNets() {
        Traversehall land = Checks.land(1);
        int[][] wrong = {{-1, 0, 0}, {5, 0, 0}, {0, -1, 0}, {0, 3, 0}, {0, 0, -1}, {0, 0, 1},
            {Integer.MIN_VALUE, 0, 0}, {0, Integer.MAX_VALUE, 0}, {0, 0, Integer.MAX_VALUE}};
        for (int[] net : wrong) {
            due(11, "no such net", Checks.INDEX, () -> land.top(net[0], net[1], net[2]));
            due(12, "no such net", Checks.INDEX, () -> land.bottom(net[0], net[1], net[2]));
            due(13, "no such net", Checks.INDEX, () -> land.rounded(net[0], net[1], net[2]));
            due(14, "no such net", Checks.INDEX, () -> land.doubtTop(net[0], net[1], net[2]));
            due(15, "no such net", Checks.INDEX, () -> land.doubtBottom(net[0], net[1], net[2]));
        }
    }

    private static void severalParts() {
        Traversehall land = Checks.land(6);
        land.fix(0, 0, 0);
        land.fix(3, 0, 100);
        land.observe(0, 0, 0, 1, 1, 1);
        land.observe(0, 0, 0, 1, 2, 1);
        land.observe(0, 0, 3, 4, 1, 1);
        land.observe(0, 0, 3, 4, 2, 2);
        land.observe(0, 0, 5, 2, 9, 2);
        CHECKS.dueFraction(11, "the one part", 3, 2, () -> land.top(0, 0, 1), () -> land.bottom(0, 0, 1));
        CHECKS.dueFraction(12, "the other part", 305, 3, () -> land.top(0, 0, 4), () -> land.bottom(0, 0, 4));
        CHECKS.dueFraction(18, "the sum of both", 7, 6, () -> land.sumTop(0, 0), () -> land.sumBottom(0, 0));
        CHECKS.dueFraction(14, "the doubt in one", 1, 3, () -> land.doubtTop(0, 0, 4), () -> land.doubtBottom(0, 0, 4));
        due(10, "the spare ones of both", 2, () -> land.spare(0, 0));
    }

    /** The most that ten observations of weight 2 can tell against fixed points at the edges. */
    private static void greatNumbers() {
        Traversehall land = Checks.land(6);
        land.fix(0, 2, -4999);
        land.fix(1, 2, 4999);
        for (int count = 0; count < 10; count++) {
            land.observe(1, 2, 0, 1, -999, 2);
        }
        due(18, "20 times 10997 squared", 20L * 10997 * 10997, () -> land.sumTop(1, 2));
        due(16, "the residual", -10997, () -> land.residualTop(9));
        due(10, "the spare ones", 10, () -> land.spare(1, 2));
    }
}
