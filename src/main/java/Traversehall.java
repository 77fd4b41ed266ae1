import java.util.NoSuchElementException;

/** A land measured: points, the differences told between them, versions of their coordinates, and deeds. */
public final class Traversehall {
    private static final int NONE = -1;
    private static final int AXES = 3;
    private static final int PLANE_AXES = 2;
    private static final int EPOCHS = 5;
    private static final int MAX_POINTS = 6;
    private static final int MAX_OBSERVATIONS = 60;
    private static final int MAX_IN_NET = 10;
    private static final int MAX_VERSIONS = 12;
    private static final int MAX_DEEDS = 8;
    private static final int MAX_CORNERS = 10;
    private static final int MAX_FIXED_AT = 4999;
    private static final int MAX_TOLD = 999;
    private static final int MAX_WEIGHT = 2;
    private static final int MAX_STEP = 999;
    private static final int MAX_LIMIT = 9999;
    private static final int NEAR_STEP = 5;
    // Euclid's algorithm needs fewer than 100 divisions for any two longs.
    private static final int MAX_DIVISIONS = 100;

    private final Points points = new Points();
    private final Observations observations = new Observations();
    private final Archive archive = new Archive();
    private final Deeds deeds = new Deeds();
    // Rows to reckon in, made once: no call makes any.
    private final Net net = new Net();
    private final Net otherNet = new Net();
    private final Fraction found = new Fraction();

    public Traversehall() {
    }

    public int addPoint() throws IllegalStateException {
        if (points.count >= MAX_POINTS) {
            throw new IllegalStateException("there are 6 points");
        }
        return points.append();
    }

    public boolean fix(int point, int axis, int value) throws IndexOutOfBoundsException, IllegalArgumentException {
        requirePointAndAxis(point, axis);
        requireAmount(value, MAX_FIXED_AT);
        boolean was = points.isHeld(point, axis);
        points.hold(point, axis, value);
        return was;
    }

    public int release(int point, int axis) throws IndexOutOfBoundsException, NoSuchElementException {
        requirePointAndAxis(point, axis);
        if (!points.isHeld(point, axis)) {
            throw new NoSuchElementException("the point is not fixed");
        }
        int at = points.heldAt(point, axis);
        points.letGo(point, axis);
        return at;
    }

    public int observe(int epoch, int axis, int from, int to, int value, int weight)
            throws IndexOutOfBoundsException, IllegalArgumentException, IllegalStateException {
        requireEpochAndAxis(epoch, axis);
        requirePoint(from);
        requirePoint(to);
        if (from == to) {
            throw new IllegalArgumentException("both points are the same");
        }
        requireAmount(value, MAX_TOLD);
        if (weight < 1 || weight > MAX_WEIGHT) {
            throw new IllegalArgumentException("a weight is 1 or 2");
        }
        if (observations.count >= MAX_OBSERVATIONS || observations.countOf(epoch, axis) >= MAX_IN_NET) {
            throw new IllegalStateException("there are 60 observations, or 10 of this epoch and axis");
        }
        int number = observations.append(epoch, axis);
        observations.tell(number, from, to, value, weight);
        return number;
    }

    public boolean mask(int observation, boolean is) throws IndexOutOfBoundsException {
        requireObservation(observation);
        boolean was = observations.isMasked(observation);
        observations.setMasked(observation, is);
        return was;
    }

    public boolean isInUse(int observation) throws IndexOutOfBoundsException {
        requireObservation(observation);
        return indexInUse(observation) != NONE;
    }

    public boolean hangs(int epoch, int axis, int point) throws IndexOutOfBoundsException {
        requireEpochAndAxis(epoch, axis);
        requirePoint(point);
        loadNet(net, epoch, axis, NONE);
        net.join();
        return net.isHanging(point);
    }

    public int parts(int epoch, int axis) throws IndexOutOfBoundsException {
        requireEpochAndAxis(epoch, axis);
        loadNet(net, epoch, axis, NONE);
        net.join();
        return net.partCount;
    }

    public int spare(int epoch, int axis) throws IndexOutOfBoundsException {
        requireEpochAndAxis(epoch, axis);
        adjustNet(epoch, axis);
        return net.spareCount();
    }

    public long top(int epoch, int axis, int point) throws IndexOutOfBoundsException, NoSuchElementException {
        findCoordinate(epoch, axis, point);
        return found.top;
    }

    public long bottom(int epoch, int axis, int point) throws IndexOutOfBoundsException, NoSuchElementException {
        findCoordinate(epoch, axis, point);
        return found.bottom;
    }

    public int rounded(int epoch, int axis, int point) throws IndexOutOfBoundsException, NoSuchElementException {
        findCoordinate(epoch, axis, point);
        return nearestWhole(found.top, found.bottom);
    }

    public long doubtTop(int epoch, int axis, int point) throws IndexOutOfBoundsException, NoSuchElementException {
        findDoubt(epoch, axis, point);
        return found.top;
    }

    public long doubtBottom(int epoch, int axis, int point) throws IndexOutOfBoundsException, NoSuchElementException {
        findDoubt(epoch, axis, point);
        return found.bottom;
    }

    public long residualTop(int observation) throws IndexOutOfBoundsException, NoSuchElementException {
        findResidual(observation);
        return found.top;
    }

    public long residualBottom(int observation) throws IndexOutOfBoundsException, NoSuchElementException {
        findResidual(observation);
        return found.bottom;
    }

    public long sumTop(int epoch, int axis) throws IndexOutOfBoundsException {
        requireEpochAndAxis(epoch, axis);
        adjustNet(epoch, axis);
        return net.leastSum.top;
    }

    public long sumBottom(int epoch, int axis) throws IndexOutOfBoundsException {
        requireEpochAndAxis(epoch, axis);
        adjustNet(epoch, axis);
        return net.leastSum.bottom;
    }

    public boolean isNeeded(int observation) throws IndexOutOfBoundsException, NoSuchElementException {
        requireObservation(observation);
        requireInUse(indexInUse(observation));
        return !hangsWithout(observation);
    }

    public long dropTop(int observation)
            throws IndexOutOfBoundsException, NoSuchElementException, UnsupportedOperationException {
        findDrop(observation);
        return found.top;
    }

    public long dropBottom(int observation)
            throws IndexOutOfBoundsException, NoSuchElementException, UnsupportedOperationException {
        findDrop(observation);
        return found.bottom;
    }

    public int worst(int epoch, int axis) throws IndexOutOfBoundsException, NoSuchElementException {
        requireEpochAndAxis(epoch, axis);
        int number = worstOf(epoch, axis);
        if (number == NONE) {
            throw new NoSuchElementException("no observation is the worst");
        }
        return number;
    }

    public int clean(int epoch, int axis, int limit) throws IndexOutOfBoundsException, IllegalArgumentException {
        requireEpochAndAxis(epoch, axis);
        requireLimit(limit);
        int cleaned = 0;
        for (int round = 0; round < MAX_IN_NET; round++) {
            int number = worstOf(epoch, axis);
            if (number == NONE || !net.isSumAbove(limit)) {
                return cleaned;
            }
            observations.setMasked(number, true);
            cleaned++;
        }
        return cleaned;
    }

    public int publish(int epoch) throws IndexOutOfBoundsException, IllegalStateException {
        requireEpoch(epoch);
        if (archive.count >= MAX_VERSIONS) {
            throw new IllegalStateException("there are 12 versions");
        }
        int version = archive.append(epoch);
        for (int axis = 0; axis < AXES; axis++) {
            adjustNet(epoch, axis);
            archive.keep(version, axis, net);
        }
        return version;
    }

    public int epochOf(int version) throws IndexOutOfBoundsException {
        requireVersion(version);
        return archive.epochAt(version);
    }

    public int published(int version, int axis, int point) throws IndexOutOfBoundsException, NoSuchElementException {
        requireCoordinate(version, axis, point);
        return archive.nearestAt(version, axis, point);
    }

    public long publishedTop(int version, int axis, int point)
            throws IndexOutOfBoundsException, NoSuchElementException {
        requireCoordinate(version, axis, point);
        return archive.topAt(version, axis, point);
    }

    public long publishedBottom(int version, int axis, int point)
            throws IndexOutOfBoundsException, NoSuchElementException {
        requireCoordinate(version, axis, point);
        return archive.bottomAt(version, axis, point);
    }

    public boolean rests(int version, int observation) throws IndexOutOfBoundsException {
        requireVersion(version);
        requireObservation(observation);
        return archive.keepsObservation(version, observation);
    }

    public boolean isFresh(int version) throws IndexOutOfBoundsException {
        requireVersion(version);
        for (int axis = 0; axis < AXES; axis++) {
            adjustNet(archive.epochAt(version), axis);
            if (!archive.agrees(version, axis, net)) {
                return false;
            }
        }
        return true;
    }

    public long movedTop(int point, int axis, int first, int second)
            throws IndexOutOfBoundsException, NoSuchElementException {
        findMove(point, axis, first, second);
        return found.top;
    }

    public long movedBottom(int point, int axis, int first, int second)
            throws IndexOutOfBoundsException, NoSuchElementException {
        findMove(point, axis, first, second);
        return found.bottom;
    }

    public int moved(int axis, int first, int second, int limit)
            throws IndexOutOfBoundsException, IllegalArgumentException {
        requireAxis(axis);
        requireVersion(first);
        requireVersion(second);
        requireLimit(limit);
        int movers = 0;
        for (int point = 0; point < points.count; point++) {
            if (archive.hasPlace(first, axis, point) && archive.hasPlace(second, axis, point)) {
                setMove(point, axis, first, second);
                movers += Math.abs(found.top) > limit * found.bottom ? 1 : 0;
            }
        }
        return movers;
    }

    public int deed() throws IllegalStateException {
        if (deeds.count >= MAX_DEEDS) {
            throw new IllegalStateException("there are 8 deeds");
        }
        return deeds.append();
    }

    public int corner(int deed, int monument, int stepX, int stepY)
            throws IndexOutOfBoundsException, IllegalArgumentException, IllegalStateException {
        requireDeed(deed);
        if (monument != NONE) {
            requirePoint(monument);
        }
        requireAmount(stepX, MAX_STEP);
        requireAmount(stepY, MAX_STEP);
        if (deeds.cornersOf(deed) >= MAX_CORNERS) {
            throw new IllegalStateException("the deed has 10 corners");
        }
        return deeds.appendCorner(deed, monument, stepX, stepY);
    }

    public int placeOf(int deed, int version, int corner, int axis)
            throws IndexOutOfBoundsException, NoSuchElementException {
        requireDeed(deed);
        requireVersion(version);
        if (corner < 0 || corner >= deeds.cornersOf(deed) || axis < 0 || axis >= PLANE_AXES) {
            throw new IndexOutOfBoundsException("no such corner, or no axis of the plane");
        }
        layOutDeed(deed, version);
        return deeds.placeAt(corner, axis);
    }

    public long area(int deed, int version) throws IndexOutOfBoundsException, NoSuchElementException {
        requireDeed(deed);
        requireVersion(version);
        layOutDeed(deed, version);
        return deeds.doubledArea();
    }

    public int yields(int deed, int version) throws IndexOutOfBoundsException, NoSuchElementException {
        requireDeed(deed);
        requireVersion(version);
        layOutDeed(deed, version);
        return deeds.yieldingCorners(deed);
    }

    public int masked() {
        return observations.maskedCount();
    }

    public float usedShare() throws ArithmeticException {
        requireSomeObservation();
        int used = 0;
        for (int epoch = 0; epoch < EPOCHS; epoch++) {
            for (int axis = 0; axis < AXES; axis++) {
                loadNet(net, epoch, axis, NONE);
                net.join();
                used += net.usedCount();
            }
        }
        return (float) used / (float) observations.count;
    }

    public double meanTold() throws ArithmeticException {
        requireSomeObservation();
        return (double) observations.sumOfAmounts() / (double) observations.count;
    }

    public boolean isSound() {
        for (int epoch = 0; epoch < EPOCHS; epoch++) {
            for (int axis = 0; axis < AXES; axis++) {
                if (!isNetSound(epoch, axis)) {
                    return false;
                }
            }
        }
        for (int version = 0; version < archive.count; version++) {
            if (!isVersionSound(version)) {
                return false;
            }
        }
        return true;
    }

    private boolean isNetSound(int epoch, int axis) {
        adjustNet(epoch, axis);
        loadNet(otherNet, epoch, axis, NONE);
        otherNet.adjust(true);
        return net.givesSame(otherNet) && net.isBalanced();
    }

    private boolean isVersionSound(int version) {
        for (int axis = 0; axis < AXES; axis++) {
            loadVersion(version, axis);
            net.adjust(false);
            if (!archive.agrees(version, axis, net)) {
                return false;
            }
        }
        return true;
    }

    /** Loads what stands now of an epoch and axis, leaving out one observation, or NONE. */
    private void loadNet(Net into, int epoch, int axis, int leftOut) {
        into.begin(points.count);
        for (int point = 0; point < points.count; point++) {
            if (points.isHeld(point, axis)) {
                into.hold(point, points.heldAt(point, axis));
            }
        }
        for (int number = 0; number < observations.count; number++) {
            if (number != leftOut && observations.isOf(number, epoch, axis) && !observations.isMasked(number)) {
                observations.copyInto(into, number);
            }
        }
    }

    /** Loads what a version rests on along an axis: a fixed point's coordinate is where it was fixed. */
    private void loadVersion(int version, int axis) {
        net.begin(points.count);
        for (int point = 0; point < points.count; point++) {
            if (archive.keepsHeld(version, axis, point)) {
                net.hold(point, (int) archive.topAt(version, axis, point));
            }
        }
        int epoch = archive.epochAt(version);
        for (int number = 0; number < observations.count; number++) {
            if (observations.isOf(number, epoch, axis) && archive.keepsObservation(version, number)) {
                observations.copyInto(net, number);
            }
        }
    }

    private void adjustNet(int epoch, int axis) {
        loadNet(net, epoch, axis, NONE);
        net.adjust(false);
    }

    /** Adjusts the net of an observation, and returns its index there, or NONE if it is not in use. */
    private int indexInUse(int observation) {
        adjustNet(observations.epochAt(observation), observations.axisAt(observation));
        return net.indexOfUsed(observation);
    }

    /** Adjusts the other net without an observation of the net, and returns whether all points hang as before. */
    private boolean hangsWithout(int observation) {
        loadNet(otherNet, observations.epochAt(observation), observations.axisAt(observation), observation);
        otherNet.adjust(false);
        return net.hangsLike(otherNet);
    }

    /** Leaves the net adjusted with all observations, as cleaning asks for its sum. */
    private int worstOf(int epoch, int axis) {
        adjustNet(epoch, axis);
        int worstNumber = NONE;
        // The greatest drop leaves the least sum; one that is not below the whole sum is no drop above 0.
        found.set(net.leastSum.top, net.leastSum.bottom);
        for (int index = 0; index < net.size; index++) {
            int number = net.numberAt(index);
            if (net.isUsed(index) && hangsWithout(number) && otherNet.leastSum.isBelow(found)) {
                found.set(otherNet.leastSum.top, otherNet.leastSum.bottom);
                worstNumber = number;
            }
        }
        return worstNumber;
    }

    private void findCoordinate(int epoch, int axis, int point) {
        requireEpochAndAxis(epoch, axis);
        requirePoint(point);
        adjustNet(epoch, axis);
        requireHanging(point);
        found.set(net.scaledPlace(point), net.scale);
    }

    private void findDoubt(int epoch, int axis, int point) {
        requireEpochAndAxis(epoch, axis);
        requirePoint(point);
        adjustNet(epoch, axis);
        requireHanging(point);
        found.set(net.scaledDoubt(point), net.scale);
    }

    private void findResidual(int observation) {
        requireObservation(observation);
        int index = indexInUse(observation);
        requireInUse(index);
        found.set(net.scaledResidual(index), net.scale);
    }

    private void findDrop(int observation) {
        requireObservation(observation);
        requireInUse(indexInUse(observation));
        if (!hangsWithout(observation)) {
            throw new UnsupportedOperationException("the observation is needed");
        }
        found.setDifference(net.leastSum.top, net.leastSum.bottom, otherNet.leastSum.top, otherNet.leastSum.bottom);
    }

    private void findMove(int point, int axis, int first, int second) {
        requirePointAndAxis(point, axis);
        requireVersion(first);
        requireVersion(second);
        if (!archive.hasPlace(first, axis, point) || !archive.hasPlace(second, axis, point)) {
            throw new NoSuchElementException("a version has no coordinate of the point");
        }
        setMove(point, axis, first, second);
    }

    private void setMove(int point, int axis, int first, int second) {
        found.setDifference(archive.topAt(second, axis, point), archive.bottomAt(second, axis, point),
                archive.topAt(first, axis, point), archive.bottomAt(first, axis, point));
    }

    private void layOutDeed(int deed, int version) {
        if (!deeds.layOut(deed, version, archive)) {
            throw new NoSuchElementException("the deed has no corners, or no places");
        }
    }

    private void requireEpoch(int epoch) {
        if (epoch < 0 || epoch >= EPOCHS) {
            throw new IndexOutOfBoundsException("no such epoch");
        }
    }

    private void requireAxis(int axis) {
        if (!isAxis(axis)) {
            throw new IndexOutOfBoundsException("no such axis");
        }
    }

    private void requireEpochAndAxis(int epoch, int axis) {
        requireEpoch(epoch);
        requireAxis(axis);
    }

    private void requirePoint(int point) {
        if (!points.has(point)) {
            throw new IndexOutOfBoundsException("no such point");
        }
    }

    private void requirePointAndAxis(int point, int axis) {
        requirePoint(point);
        requireAxis(axis);
    }

    private void requireObservation(int observation) {
        if (!observations.has(observation)) {
            throw new IndexOutOfBoundsException("no such observation");
        }
    }

    private void requireVersion(int version) {
        if (!archive.has(version)) {
            throw new IndexOutOfBoundsException("no such version");
        }
    }

    private void requireDeed(int deed) {
        if (!deeds.has(deed)) {
            throw new IndexOutOfBoundsException("no such deed");
        }
    }

    private void requireAmount(int value, int most) {
        if (value < -most || value > most) {
            throw new IllegalArgumentException("a number is out of range");
        }
    }

    private void requireLimit(int limit) {
        if (limit < 0 || limit > MAX_LIMIT) {
            throw new IllegalArgumentException("a limit is from 0 to 9999");
        }
    }

    private void requireHanging(int point) {
        if (!net.isHanging(point)) {
            throw new NoSuchElementException("the point does not hang");
        }
    }

    private void requireInUse(int indexInUse) {
        if (indexInUse == NONE) {
            throw new NoSuchElementException("the observation is not in use");
        }
    }

    private void requireCoordinate(int version, int axis, int point) {
        requireVersion(version);
        requirePointAndAxis(point, axis);
        if (!archive.hasPlace(version, axis, point)) {
            throw new NoSuchElementException("the version has no coordinate of the point");
        }
    }

    private void requireSomeObservation() {
        if (observations.count == 0) {
            throw new ArithmeticException("there are no observations");
        }
    }

    private static boolean isAxis(int axis) {
        return axis >= 0 && axis < AXES;
    }

    /** Returns the whole number next to a fraction, halves up. */
    private static int nearestWhole(long above, long below) {
        if (below < 1) {
            return 0;
        }
        return (int) Math.floorDiv(2 * above + below, 2 * below);
    }

    /** A fraction without a common divisor above 1; it can be set anew. */
    private static final class Fraction {
        private long top = 0;
        private long bottom = 1;

        void set(long above, long below) {
            long common = commonDivisor(Math.abs(above), below);
            if (common < 1) {
                return;
            }
            top = above / common;
            bottom = below / common;
        }

        void setDifference(long above, long below, long lessAbove, long lessBelow) {
            set(above * lessBelow - lessAbove * below, below * lessBelow);
        }

        boolean isBelow(Fraction other) {
            return other != null && top * other.bottom < other.top * bottom;
        }

        private static long commonDivisor(long one, long another) {
            long greater = one;
            long rest = another;
            for (int count = 0; count < MAX_DIVISIONS && rest != 0; count++) {
                long next = greater % rest;
                greater = rest;
                rest = next;
            }
            return greater;
        }
    }

    /** The points, and where each is fixed along each axis. */
    private static final class Points {
        private int count = 0;
        private final boolean[] held = new boolean[MAX_POINTS * AXES];
        private final int[] at = new int[MAX_POINTS * AXES];

        boolean has(int point) {
            return point >= 0 && point < count && point < MAX_POINTS;
        }

        int append() {
            if (count < MAX_POINTS) {
                count++;
            }
            return count - 1;
        }

        boolean isHeld(int point, int axis) {
            return has(point) && isAxis(axis) && held[point * AXES + axis];
        }

        int heldAt(int point, int axis) {
            return has(point) && isAxis(axis) ? at[point * AXES + axis] : 0;
        }

        void hold(int point, int axis, int value) {
            if (has(point) && isAxis(axis)) {
                held[point * AXES + axis] = true;
                at[point * AXES + axis] = value;
            }
        }

        void letGo(int point, int axis) {
            if (has(point) && isAxis(axis)) {
                held[point * AXES + axis] = false;
            }
        }
    }

    /** The observations in columns: what each told, and whether it is masked. */
    private static final class Observations {
        private int count = 0;
        private final int[] epochs = new int[MAX_OBSERVATIONS];
        private final int[] axes = new int[MAX_OBSERVATIONS];
        private final int[] froms = new int[MAX_OBSERVATIONS];
        private final int[] tos = new int[MAX_OBSERVATIONS];
        private final int[] values = new int[MAX_OBSERVATIONS];
        private final int[] weights = new int[MAX_OBSERVATIONS];
        private final boolean[] hidden = new boolean[MAX_OBSERVATIONS];

        boolean has(int number) {
            return number >= 0 && number < count && number < MAX_OBSERVATIONS;
        }

        int append(int epoch, int axis) {
            if (count < MAX_OBSERVATIONS) {
                epochs[count] = epoch;
                axes[count] = axis;
                count++;
            }
            return count - 1;
        }

        void tell(int number, int from, int to, int value, int weight) {
            if (has(number)) {
                froms[number] = from;
                tos[number] = to;
                values[number] = value;
                weights[number] = weight;
            }
        }

        int epochAt(int number) {
            return has(number) ? epochs[number] : NONE;
        }

        int axisAt(int number) {
            return has(number) ? axes[number] : NONE;
        }

        boolean isOf(int number, int epoch, int axis) {
            return has(number) && epochs[number] == epoch && axes[number] == axis;
        }

        int countOf(int epoch, int axis) {
            int ofNet = 0;
            for (int number = 0; number < count; number++) {
                ofNet += isOf(number, epoch, axis) ? 1 : 0;
            }
            return ofNet;
        }

        boolean isMasked(int number) {
            return has(number) && hidden[number];
        }

        void setMasked(int number, boolean is) {
            if (has(number)) {
                hidden[number] = is;
            }
        }

        int maskedCount() {
            int counted = 0;
            for (int number = 0; number < count; number++) {
                counted += isMasked(number) ? 1 : 0;
            }
            return counted;
        }

        int sumOfAmounts() {
            int sum = 0;
            for (int number = 0; number < count && number < MAX_OBSERVATIONS; number++) {
                sum += Math.abs(values[number]);
            }
            return sum;
        }

        void copyInto(Net net, int number) {
            if (net != null && has(number)) {
                net.add(number, froms[number], tos[number], values[number], weights[number]);
            }
        }
    }

    /**
     * Equations with as many unknowns as rows, in whole numbers, the right side in the last column. Those of a
     * net are positive definite, so that the pivots are all above 0 in every order of the rows.
     */
    private static final class Equations {
        private int size = 0;
        private final long[][] rows = new long[MAX_POINTS][MAX_POINTS + 1];

        void begin(int unknowns) {
            size = Math.max(0, Math.min(unknowns, MAX_POINTS));
            for (int row = 0; row < size; row++) {
                for (int column = 0; column <= size; column++) {
                    rows[row][column] = 0;
                }
            }
        }

        void add(int row, int column, long amount) {
            if (row >= 0 && row < size && column >= 0 && column < size) {
                rows[row][column] += amount;
            }
        }

        void addRight(int row, long amount) {
            if (row >= 0 && row < size) {
                rows[row][size] += amount;
            }
        }

        /** Solves by Bareiss' elimination, and returns the divisor that all unknowns share. */
        long solve() {
            long last = 1;
            for (int step = 0; step < size; step++) {
                for (int row = 0; row < size; row++) {
                    if (row != step) {
                        eliminate(row, step, last);
                    }
                }
                last = rows[step][step];
            }
            return last;
        }

        // Each number stays a minor of the first equations: the division leaves no rest.
        private void eliminate(int row, int step, long last) {
            if (last == 0) {
                return;
            }
            long pivot = rows[step][step];
            long factor = rows[row][step];
            for (int column = 0; column <= size; column++) {
                rows[row][column] = (pivot * rows[row][column] - factor * rows[step][column]) / last;
            }
        }

        long scaledUnknown(int row) {
            return row >= 0 && row < size ? rows[row][size] : 0;
        }
    }

    /**
     * The observations and fixed points of one epoch and axis. All its fractions are told as whole numbers times
     * the scale; at most 10 observations of weight 2 keep the scale below 6,000, and squares within a long.
     */
    private static final class Net {
        private int pointCount = 0;
        private final boolean[] held = new boolean[MAX_POINTS];
        private final int[] heldAt = new int[MAX_POINTS];
        private int size = 0;
        private final int[] numbers = new int[MAX_IN_NET];
        private final int[] froms = new int[MAX_IN_NET];
        private final int[] tos = new int[MAX_IN_NET];
        private final int[] values = new int[MAX_IN_NET];
        private final int[] weights = new int[MAX_IN_NET];
        private int partCount = 0;
        private final int[] part = new int[MAX_POINTS];
        private final boolean[] hanging = new boolean[MAX_POINTS];
        private int unknowns = 0;
        private final int[] rowOf = new int[MAX_POINTS];
        private final Equations equations = new Equations();
        private long scale = 1;
        private final long[] scaled = new long[MAX_POINTS];
        private final Fraction leastSum = new Fraction();

        void begin(int points) {
            pointCount = Math.max(0, Math.min(points, MAX_POINTS));
            size = 0;
            for (int point = 0; point < MAX_POINTS; point++) {
                held[point] = false;
                heldAt[point] = 0;
            }
        }

        void hold(int point, int at) {
            if (point >= 0 && point < pointCount) {
                held[point] = true;
                heldAt[point] = at;
            }
        }

        void add(int number, int from, int to, int value, int weight) {
            boolean known = from >= 0 && from < pointCount && to >= 0 && to < pointCount;
            if (!known || size >= MAX_IN_NET) {
                return;
            }
            numbers[size] = number;
            froms[size] = from;
            tos[size] = to;
            values[size] = value;
            weights[size] = weight;
            size++;
        }

        /** Finds the parts, and which points hang. */
        void join() {
            partCount = pointCount;
            for (int point = 0; point < MAX_POINTS; point++) {
                part[point] = point;
                hanging[point] = false;
            }
            for (int index = 0; index < size; index++) {
                joinParts(part[froms[index]], part[tos[index]]);
            }
            for (int point = 0; point < pointCount; point++) {
                if (held[point]) {
                    hangPart(part[point]);
                }
            }
        }

        private void joinParts(int one, int another) {
            if (one == another) {
                return;
            }
            partCount--;
            for (int point = 0; point < pointCount; point++) {
                if (part[point] == another) {
                    part[point] = one;
                }
            }
        }

        private void hangPart(int label) {
            for (int point = 0; point < pointCount; point++) {
                if (part[point] == label) {
                    hanging[point] = true;
                }
            }
        }

        /** Joins, and finds the coordinates and the least sum, the points taken forward or backward. */
        void adjust(boolean backward) {
            join();
            numberRows(backward);
            fillEquations();
            fillRightSide();
            scale = equations.solve();
            for (int point = 0; point < MAX_POINTS; point++) {
                scaled[point] = held[point] ? heldAt[point] * scale : equations.scaledUnknown(rowOf[point]);
            }
            sumResiduals();
        }

        private void numberRows(boolean backward) {
            unknowns = 0;
            for (int point = 0; point < MAX_POINTS; point++) {
                rowOf[point] = NONE;
            }
            for (int turn = 0; turn < pointCount; turn++) {
                int point = backward ? pointCount - 1 - turn : turn;
                if (hanging[point] && !held[point]) {
                    rowOf[point] = unknowns;
                    unknowns++;
                }
            }
        }

        private void fillEquations() {
            equations.begin(unknowns);
            for (int index = 0; index < size; index++) {
                if (isUsed(index)) {
                    int from = rowOf[froms[index]];
                    int to = rowOf[tos[index]];
                    // A fixed point has no row, and what is added to none is nothing.
                    equations.add(from, from, weights[index]);
                    equations.add(to, to, weights[index]);
                    equations.add(from, to, -weights[index]);
                    equations.add(to, from, -weights[index]);
                }
            }
        }

        private void fillRightSide() {
            for (int index = 0; index < size; index++) {
                if (isUsed(index)) {
                    int from = froms[index];
                    int to = tos[index];
                    equations.addRight(rowOf[to], weights[index] * (heldAt[from] + values[index]));
                    equations.addRight(rowOf[from], weights[index] * (heldAt[to] - values[index]));
                }
            }
        }

        private void sumResiduals() {
            long sum = 0;
            for (int index = 0; index < size; index++) {
                if (isUsed(index)) {
                    long residual = scaledResidual(index);
                    sum += weights[index] * residual * residual;
                }
            }
            leastSum.set(sum, scale * scale);
        }

        boolean isHanging(int point) {
            return point >= 0 && point < MAX_POINTS && hanging[point];
        }

        boolean isHeld(int point) {
            return point >= 0 && point < MAX_POINTS && held[point];
        }

        // Both its points are in the same part.
        boolean isUsed(int index) {
            return index >= 0 && index < size && hanging[froms[index]];
        }

        int numberAt(int index) {
            return index >= 0 && index < size ? numbers[index] : NONE;
        }

        int indexOfUsed(int number) {
            for (int index = 0; index < size; index++) {
                if (numbers[index] == number && isUsed(index)) {
                    return index;
                }
            }
            return NONE;
        }

        int usedCount() {
            int counted = 0;
            for (int index = 0; index < size; index++) {
                counted += isUsed(index) ? 1 : 0;
            }
            return counted;
        }

        int spareCount() {
            return usedCount() - unknowns;
        }

        long scaledPlace(int point) {
            return point >= 0 && point < MAX_POINTS ? scaled[point] : 0;
        }

        long scaledResidual(int index) {
            if (index < 0 || index >= size) {
                return 0;
            }
            return values[index] * scale - (scaled[tos[index]] - scaled[froms[index]]);
        }

        /** Solves anew with a right side of 1 for the point alone; the scale stays what it is. */
        long scaledDoubt(int point) {
            if (!isHanging(point) || held[point]) {
                return 0;
            }
            fillEquations();
            equations.addRight(rowOf[point], 1);
            scale = equations.solve();
            return equations.scaledUnknown(rowOf[point]);
        }

        boolean isSumAbove(int limit) {
            return leastSum.top > (long) limit * spareCount() * leastSum.bottom;
        }

        boolean hangsLike(Net other) {
            for (int point = 0; point < MAX_POINTS; point++) {
                if (other == null || hanging[point] != other.hanging[point]) {
                    return false;
                }
            }
            return true;
        }

        boolean givesSame(Net other) {
            if (other == null || !hangsLike(other)) {
                return false;
            }
            for (int point = 0; point < pointCount; point++) {
                if (hanging[point] && scaled[point] * other.scale != other.scaled[point] * scale) {
                    return false;
                }
            }
            return true;
        }

        /** Returns whether the weighted residuals at each point with a row sum to 0. */
        boolean isBalanced() {
            for (int point = 0; point < pointCount; point++) {
                if (hanging[point] && !held[point] && balanceAt(point) != 0) {
                    return false;
                }
            }
            return true;
        }

        private long balanceAt(int point) {
            long balance = 0;
            for (int index = 0; index < size; index++) {
                long weighted = weights[index] * scaledResidual(index);
                if (tos[index] == point) {
                    balance += weighted;
                }
                if (froms[index] == point) {
                    balance -= weighted;
                }
            }
            return balance;
        }
    }

    /** The versions: their coordinates, and what these rest on. */
    private static final class Archive {
        private int count = 0;
        private final int[] epochs = new int[MAX_VERSIONS];
        // A bit for each of the at most 60 observations.
        private final long[] restedOn = new long[MAX_VERSIONS];
        private final boolean[] held = new boolean[MAX_VERSIONS * AXES * MAX_POINTS];
        private final long[] tops = new long[MAX_VERSIONS * AXES * MAX_POINTS];
        // 0 where there is no coordinate.
        private final long[] bottoms = new long[MAX_VERSIONS * AXES * MAX_POINTS];
        private final Fraction place = new Fraction();

        boolean has(int version) {
            return version >= 0 && version < count && version < MAX_VERSIONS;
        }

        int append(int epoch) {
            if (count < MAX_VERSIONS) {
                epochs[count] = epoch;
                count++;
            }
            return count - 1;
        }

        void keep(int version, int axis, Net net) {
            if (net == null || !has(version)) {
                return;
            }
            for (int point = 0; point < MAX_POINTS; point++) {
                int spot = spotOf(version, axis, point);
                if (spot != NONE && net.isHanging(point)) {
                    place.set(net.scaledPlace(point), net.scale);
                    tops[spot] = place.top;
                    bottoms[spot] = place.bottom;
                    held[spot] = net.isHeld(point);
                }
            }
            for (int index = 0; index < net.size; index++) {
                if (net.isUsed(index)) {
                    restedOn[version] |= 1L << net.numberAt(index);
                }
            }
        }

        private int spotOf(int version, int axis, int point) {
            boolean known = has(version) && isAxis(axis) && point >= 0 && point < MAX_POINTS;
            return known ? (version * AXES + axis) * MAX_POINTS + point : NONE;
        }

        int epochAt(int version) {
            return has(version) ? epochs[version] : NONE;
        }

        boolean keepsObservation(int version, int number) {
            boolean known = has(version) && number >= 0 && number < MAX_OBSERVATIONS;
            return known && (restedOn[version] >> number & 1) == 1;
        }

        boolean keepsHeld(int version, int axis, int point) {
            int spot = spotOf(version, axis, point);
            return spot != NONE && held[spot];
        }

        boolean hasPlace(int version, int axis, int point) {
            return bottomAt(version, axis, point) != 0;
        }

        long topAt(int version, int axis, int point) {
            int spot = spotOf(version, axis, point);
            return spot != NONE ? tops[spot] : 0;
        }

        long bottomAt(int version, int axis, int point) {
            int spot = spotOf(version, axis, point);
            return spot != NONE ? bottoms[spot] : 0;
        }

        int nearestAt(int version, int axis, int point) {
            return nearestWhole(topAt(version, axis, point), bottomAt(version, axis, point));
        }

        /** Returns whether a net gives the points that hang, and the coordinates, of a version. */
        boolean agrees(int version, int axis, Net net) {
            if (net == null) {
                return false;
            }
            for (int point = 0; point < MAX_POINTS; point++) {
                long below = bottomAt(version, axis, point);
                if (net.isHanging(point) != (below != 0)) {
                    return false;
                }
                if (net.scaledPlace(point) * below != topAt(version, axis, point) * net.scale) {
                    return false;
                }
            }
            return true;
        }
    }

    /** The deeds with their corners, and the places of the deed that was laid out last. */
    private static final class Deeds {
        private int count = 0;
        private final int[] sizes = new int[MAX_DEEDS];
        private final int[] monuments = new int[MAX_DEEDS * MAX_CORNERS];
        private final int[] stepsX = new int[MAX_DEEDS * MAX_CORNERS];
        private final int[] stepsY = new int[MAX_DEEDS * MAX_CORNERS];
        private int laidOut = 0;
        private final int[] placesX = new int[MAX_CORNERS];
        private final int[] placesY = new int[MAX_CORNERS];
        private final boolean[] atMonument = new boolean[MAX_CORNERS];

        boolean has(int deed) {
            return deed >= 0 && deed < count && deed < MAX_DEEDS;
        }

        int append() {
            if (count < MAX_DEEDS) {
                count++;
            }
            return count - 1;
        }

        int cornersOf(int deed) {
            return has(deed) ? Math.min(sizes[deed], MAX_CORNERS) : 0;
        }

        int appendCorner(int deed, int monument, int stepX, int stepY) {
            if (has(deed) && sizes[deed] >= 0 && sizes[deed] < MAX_CORNERS) {
                int spot = deed * MAX_CORNERS + sizes[deed];
                monuments[spot] = monument;
                stepsX[spot] = stepX;
                stepsY[spot] = stepY;
                sizes[deed]++;
            }
            return cornersOf(deed);
        }

        /** Finds the places of a deed's corners; returns whether it has corners and places. */
        boolean layOut(int deed, int version, Archive archive) {
            laidOut = 0;
            if (archive == null || !has(deed)) {
                return false;
            }
            int corners = cornersOf(deed);
            for (int corner = 0; corner < corners; corner++) {
                int spot = deed * MAX_CORNERS + corner;
                int monument = monuments[spot];
                atMonument[corner] = archive.hasPlace(version, 0, monument) && archive.hasPlace(version, 1, monument);
                if (atMonument[corner]) {
                    placesX[corner] = archive.nearestAt(version, 0, monument);
                    placesY[corner] = archive.nearestAt(version, 1, monument);
                } else if (corner == 0) {
                    return false;
                } else {
                    placesX[corner] = placesX[corner - 1] + stepsX[spot];
                    placesY[corner] = placesY[corner - 1] + stepsY[spot];
                }
            }
            laidOut = corners;
            return corners > 0;
        }

        int placeAt(int corner, int axis) {
            if (corner < 0 || corner >= laidOut) {
                return 0;
            }
            return axis == 0 ? placesX[corner] : placesY[corner];
        }

        long doubledArea() {
            long area = 0;
            for (int corner = 0; corner < laidOut; corner++) {
                int next = corner + 1 < laidOut ? corner + 1 : 0;
                area += (long) placesX[corner] * placesY[next] - (long) placesX[next] * placesY[corner];
            }
            return Math.abs(area);
        }

        int yieldingCorners(int deed) {
            int yielding = 0;
            for (int corner = 1; corner < laidOut && has(deed); corner++) {
                int spot = deed * MAX_CORNERS + corner;
                int offX = placesX[corner] - placesX[corner - 1] - stepsX[spot];
                int offY = placesY[corner] - placesY[corner - 1] - stepsY[spot];
                boolean far = Math.abs(offX) > NEAR_STEP || Math.abs(offY) > NEAR_STEP;
                yielding += atMonument[corner] && far ? 1 : 0;
            }
            return yielding;
        }
    }
}
