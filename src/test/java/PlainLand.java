import java.math.BigInteger;
import java.util.ArrayList;
import java.util.List;
import java.util.NoSuchElementException;

/**
 * The document as a plain model, slow and without bounds on its numbers. It reckons in another way than the class:
 * coordinates by Cramer's rule, drops and needed observations by the share of an observation in its own difference.
 */
public final class PlainLand {
    /** An exact fraction. */
    private static final class Exact {
        private static final Exact ZERO = of(0);
        private static final Exact ONE = of(1);
        private final BigInteger top;
        private final BigInteger bottom;

        Exact(BigInteger above, BigInteger below) {
            BigInteger common = above.gcd(below).multiply(BigInteger.valueOf(below.signum()));
            top = above.divide(common);
            bottom = below.divide(common);
        }

        static Exact of(long value) {
            return new Exact(BigInteger.valueOf(value), BigInteger.ONE);
        }

        Exact plus(Exact other) {
            return new Exact(top.multiply(other.bottom).add(other.top.multiply(bottom)), bottom.multiply(other.bottom));
        }

        Exact times(Exact other) {
            return new Exact(top.multiply(other.top), bottom.multiply(other.bottom));
        }

        Exact minus(Exact other) {
            return plus(other.times(of(-1)));
        }

        Exact over(Exact other) {
            return new Exact(top.multiply(other.bottom), bottom.multiply(other.top));
        }

        int compare(Exact other) {
            return minus(other).top.signum();
        }

        boolean is(Exact other) {
            return top.equals(other.top) && bottom.equals(other.bottom);
        }

        int half() {
            BigInteger doubled = top.add(top).add(bottom);
            BigInteger[] parts = doubled.divideAndRemainder(bottom.add(bottom));
            return parts[0].intValueExact() - (parts[1].signum() < 0 ? 1 : 0);
        }
    }

    private record Told(int number, int epoch, int axis, int from, int to, int value, int weight) {
    }

    private record Corner(int monument, int stepX, int stepY) {
    }

    private static final class Version {
        private int epoch;
        private final Exact[][] places = new Exact[3][6];
        private final List<Integer> base = new ArrayList<>();
    }

    /** The net of an epoch and axis, adjusted. */
    private final class Adjusted {
        private final List<Told> joined = new ArrayList<>();
        private final List<Told> used = new ArrayList<>();
        private final List<Integer> free = new ArrayList<>();
        private final boolean[] hanging = new boolean[6];
        private final Exact[] places = new Exact[6];
        private final Integer[] held = new Integer[6];
        private Exact[][] rows;
        private Exact whole;

        Adjusted(int epoch, int axis) {
            for (Told told : all) {
                if (told.epoch == epoch && told.axis == axis && !hidden.get(told.number)) {
                    joined.add(told);
                }
            }
            for (int point = 0; point < pointCount; point++) {
                held[point] = fixed[point][axis];
                hanging[point] = held[point] != null;
            }
            spread(hanging);
            for (Told told : joined) {
                if (hanging[told.from]) {
                    used.add(told);
                }
            }
            for (int point = 0; point < 6; point++) {
                if (hanging[point] && held[point] == null) {
                    free.add(point);
                }
            }
            solve();
        }

        private void spread(boolean[] reached) {
            for (int round = 0; round < 6; round++) {
                for (Told told : joined) {
                    if (reached[told.from] || reached[told.to]) {
                        reached[told.from] = true;
                        reached[told.to] = true;
                    }
                }
            }
        }

        private void solve() {
            int size = free.size();
            rows = new Exact[size][size];
            Exact[] right = new Exact[size];
            for (int row = 0; row < size; row++) {
                right[row] = Exact.ZERO;
                for (int column = 0; column < size; column++) {
                    rows[row][column] = Exact.ZERO;
                }
                for (Told told : used) {
                    addTold(row, told, right);
                }
            }
            whole = determinant(rows);
            for (int point = 0; point < 6; point++) {
                if (held[point] != null) {
                    places[point] = Exact.of(held[point]);
                }
            }
            for (int column = 0; column < size; column++) {
                places[free.get(column)] = determinant(withColumn(column, right)).over(whole);
            }
        }

        private void addTold(int row, Told told, Exact[] right) {
            int point = free.get(row);
            if (point != told.from && point != told.to) {
                return;
            }
            int sign = point == told.to ? 1 : -1;
            int other = point == told.to ? told.from : told.to;
            rows[row][row] = rows[row][row].plus(Exact.of(told.weight));
            right[row] = right[row].plus(Exact.of((long) sign * told.weight * told.value));
            if (held[other] != null) {
                right[row] = right[row].plus(Exact.of((long) told.weight * held[other]));
            } else {
                int column = free.indexOf(other);
                rows[row][column] = rows[row][column].minus(Exact.of(told.weight));
            }
        }

        private Exact[][] withColumn(int column, Exact[] right) {
            Exact[][] changed = new Exact[rows.length][];
            for (int row = 0; row < rows.length; row++) {
                changed[row] = rows[row].clone();
                changed[row][column] = right[row];
            }
            return changed;
        }

        /** A number of the inverse, by its minor. */
        Exact inverse(int one, int another) {
            int row = free.indexOf(one);
            int column = free.indexOf(another);
            if (row < 0 || column < 0) {
                return Exact.ZERO;
            }
            Exact sign = Exact.of((row + column) % 2 == 0 ? 1 : -1);
            return determinant(without(rows, row, column)).times(sign).over(whole);
        }

        Exact residual(Told told) {
            return Exact.of(told.value).minus(places[told.to].minus(places[told.from]));
        }

        Exact sum() {
            Exact sum = Exact.ZERO;
            for (Told told : used) {
                sum = sum.plus(residual(told).times(residual(told)).times(Exact.of(told.weight)));
            }
            return sum;
        }

        /** What the other observations have to say about the difference: nothing if the observation is needed. */
        Exact freedom(Told told) {
            Exact doubt = inverse(told.from, told.from).plus(inverse(told.to, told.to))
                    .minus(inverse(told.from, told.to)).minus(inverse(told.to, told.from));
            return Exact.ONE.minus(doubt.times(Exact.of(told.weight)));
        }

        Exact drop(Told told) {
            return residual(told).times(residual(told)).times(Exact.of(told.weight)).over(freedom(told));
        }

        int worst() {
            int number = -1;
            Exact most = Exact.ZERO;
            for (Told told : used) {
                if (!freedom(told).is(Exact.ZERO) && drop(told).compare(most) > 0) {
                    most = drop(told);
                    number = told.number;
                }
            }
            return number;
        }

        int parts() {
            int parts = 0;
            boolean[] seen = new boolean[6];
            for (int point = 0; point < pointCount; point++) {
                if (!seen[point]) {
                    parts++;
                    seen[point] = true;
                    spread(seen);
                }
            }
            return parts;
        }
    }

    private static Exact[][] without(Exact[][] rows, int row, int column) {
        Exact[][] less = new Exact[rows.length - 1][rows.length - 1];
        for (int r = 0; r < less.length; r++) {
            for (int c = 0; c < less.length; c++) {
                less[r][c] = rows[r < row ? r : r + 1][c < column ? c : c + 1];
            }
        }
        return less;
    }

    private static Exact determinant(Exact[][] rows) {
        if (rows.length == 0) {
            return Exact.ONE;
        }
        Exact sum = Exact.ZERO;
        for (int column = 0; column < rows.length; column++) {
            if (rows[0][column].top.signum() != 0) {
                Exact term = rows[0][column].times(determinant(without(rows, 0, column)));
                sum = column % 2 == 0 ? sum.plus(term) : sum.minus(term);
            }
        }
        return sum;
    }

    private int pointCount = 0;
    private final Integer[][] fixed = new Integer[6][3];
    private final List<Told> all = new ArrayList<>();
    private final List<Boolean> hidden = new ArrayList<>();
    private final List<Version> versions = new ArrayList<>();
    private final List<List<Corner>> deeds = new ArrayList<>();

    private static void index(boolean known) {
        if (!known) {
            throw new IndexOutOfBoundsException();
        }
    }

    private static void argument(boolean known) {
        if (!known) {
            throw new IllegalArgumentException();
        }
    }

    private static void state(boolean known) {
        if (!known) {
            throw new IllegalStateException();
        }
    }

    private static void element(boolean known) {
        if (!known) {
            throw new NoSuchElementException();
        }
    }

    private static boolean in(int value, int least, int most) {
        return value >= least && value <= most;
    }

    private void net(int epoch, int axis) {
        index(in(epoch, 0, 4) && in(axis, 0, 2));
    }

    private void point(int point) {
        index(in(point, 0, pointCount - 1));
    }

    private Told told(int observation) {
        index(in(observation, 0, all.size() - 1));
        return all.get(observation);
    }

    private Version version(int version) {
        index(in(version, 0, versions.size() - 1));
        return versions.get(version);
    }

    private Adjusted adjusted(Told told) {
        return new Adjusted(told.epoch, told.axis);
    }

    public int addPoint() {
        state(pointCount < 6);
        return pointCount++;
    }

    public boolean fix(int point, int axis, int value) {
        point(point);
        index(in(axis, 0, 2));
        argument(in(value, -4999, 4999));
        boolean was = fixed[point][axis] != null;
        fixed[point][axis] = value;
        return was;
    }

    public int release(int point, int axis) {
        point(point);
        index(in(axis, 0, 2));
        element(fixed[point][axis] != null);
        int at = fixed[point][axis];
        fixed[point][axis] = null;
        return at;
    }

    public int observe(int epoch, int axis, int from, int to, int value, int weight) {
        net(epoch, axis);
        point(from);
        point(to);
        argument(from != to && in(value, -999, 999) && in(weight, 1, 2));
        state(all.size() < 60 && all.stream().filter(t -> t.epoch == epoch && t.axis == axis).count() < 10);
        all.add(new Told(all.size(), epoch, axis, from, to, value, weight));
        hidden.add(false);
        return all.size() - 1;
    }

    public boolean mask(int observation, boolean is) {
        told(observation);
        return hidden.set(observation, is);
    }

    public boolean isInUse(int observation) {
        Told told = told(observation);
        return adjusted(told).used.contains(told);
    }

    public boolean hangs(int epoch, int axis, int point) {
        net(epoch, axis);
        point(point);
        return new Adjusted(epoch, axis).hanging[point];
    }

    public int parts(int epoch, int axis) {
        net(epoch, axis);
        return new Adjusted(epoch, axis).parts();
    }

    public int spare(int epoch, int axis) {
        net(epoch, axis);
        Adjusted net = new Adjusted(epoch, axis);
        return net.used.size() - net.free.size();
    }

    private Exact coordinate(int epoch, int axis, int point) {
        net(epoch, axis);
        point(point);
        Adjusted net = new Adjusted(epoch, axis);
        element(net.hanging[point]);
        return net.places[point];
    }

    public long top(int epoch, int axis, int point) {
        return coordinate(epoch, axis, point).top.longValueExact();
    }

    public long bottom(int epoch, int axis, int point) {
        return coordinate(epoch, axis, point).bottom.longValueExact();
    }

    public int rounded(int epoch, int axis, int point) {
        return coordinate(epoch, axis, point).half();
    }

    private Exact doubt(int epoch, int axis, int point) {
        coordinate(epoch, axis, point);
        return new Adjusted(epoch, axis).inverse(point, point);
    }

    public long doubtTop(int epoch, int axis, int point) {
        return doubt(epoch, axis, point).top.longValueExact();
    }

    public long doubtBottom(int epoch, int axis, int point) {
        return doubt(epoch, axis, point).bottom.longValueExact();
    }

    private Exact residual(int observation) {
        Told told = told(observation);
        element(isInUse(observation));
        return adjusted(told).residual(told);
    }

    public long residualTop(int observation) {
        return residual(observation).top.longValueExact();
    }

    public long residualBottom(int observation) {
        return residual(observation).bottom.longValueExact();
    }

    public long sumTop(int epoch, int axis) {
        net(epoch, axis);
        return new Adjusted(epoch, axis).sum().top.longValueExact();
    }

    public long sumBottom(int epoch, int axis) {
        net(epoch, axis);
        return new Adjusted(epoch, axis).sum().bottom.longValueExact();
    }

    public boolean isNeeded(int observation) {
        Told told = told(observation);
        element(isInUse(observation));
        return adjusted(told).freedom(told).is(Exact.ZERO);
    }

    private Exact drop(int observation) {
        Told told = told(observation);
        if (isNeeded(observation)) {
            throw new UnsupportedOperationException();
        }
        return adjusted(told).drop(told);
    }

    public long dropTop(int observation) {
        return drop(observation).top.longValueExact();
    }

    public long dropBottom(int observation) {
        return drop(observation).bottom.longValueExact();
    }

    public int worst(int epoch, int axis) {
        net(epoch, axis);
        int number = new Adjusted(epoch, axis).worst();
        element(number >= 0);
        return number;
    }

    public int clean(int epoch, int axis, int limit) {
        net(epoch, axis);
        argument(in(limit, 0, 9999));
        int cleaned = 0;
        while (true) {
            int number = new Adjusted(epoch, axis).worst();
            Exact most = Exact.of((long) limit * spare(epoch, axis));
            if (number < 0 || new Adjusted(epoch, axis).sum().compare(most) <= 0) {
                return cleaned;
            }
            hidden.set(number, true);
            cleaned++;
        }
    }

    public int publish(int epoch) {
        index(in(epoch, 0, 4));
        state(versions.size() < 12);
        Version version = new Version();
        version.epoch = epoch;
        for (int axis = 0; axis < 3; axis++) {
            Adjusted net = new Adjusted(epoch, axis);
            version.places[axis] = net.places;
            for (Told told : net.used) {
                version.base.add(told.number);
            }
        }
        versions.add(version);
        return versions.size() - 1;
    }

    public int epochOf(int version) {
        return version(version).epoch;
    }

    private Exact kept(int version, int axis, int point) {
        version(version);
        index(in(axis, 0, 2));
        point(point);
        element(version(version).places[axis][point] != null);
        return version(version).places[axis][point];
    }

    public int published(int version, int axis, int point) {
        return kept(version, axis, point).half();
    }

    public long publishedTop(int version, int axis, int point) {
        return kept(version, axis, point).top.longValueExact();
    }

    public long publishedBottom(int version, int axis, int point) {
        return kept(version, axis, point).bottom.longValueExact();
    }

    public boolean rests(int version, int observation) {
        version(version);
        told(observation);
        return version(version).base.contains(observation);
    }

    public boolean isFresh(int version) {
        for (int axis = 0; axis < 3; axis++) {
            Exact[] now = new Adjusted(version(version).epoch, axis).places;
            Exact[] then = version(version).places[axis];
            for (int point = 0; point < 6; point++) {
                if ((now[point] == null) != (then[point] == null)
                        || now[point] != null && !now[point].is(then[point])) {
                    return false;
                }
            }
        }
        return true;
    }

    private Exact move(int point, int axis, int first, int second) {
        point(point);
        index(in(axis, 0, 2));
        version(first);
        version(second);
        return kept(second, axis, point).minus(kept(first, axis, point));
    }

    public long movedTop(int point, int axis, int first, int second) {
        return move(point, axis, first, second).top.longValueExact();
    }

    public long movedBottom(int point, int axis, int first, int second) {
        return move(point, axis, first, second).bottom.longValueExact();
    }

    public int moved(int axis, int first, int second, int limit) {
        index(in(axis, 0, 2));
        Exact[] before = version(first).places[axis];
        Exact[] after = version(second).places[axis];
        argument(in(limit, 0, 9999));
        int count = 0;
        for (int point = 0; point < 6; point++) {
            if (before[point] != null && after[point] != null) {
                Exact move = after[point].minus(before[point]);
                Exact most = Exact.of(limit);
                count += move.compare(most) > 0 || move.plus(most).compare(Exact.ZERO) < 0 ? 1 : 0;
            }
        }
        return count;
    }

    public int deed() {
        state(deeds.size() < 8);
        deeds.add(new ArrayList<>());
        return deeds.size() - 1;
    }

    public int corner(int deed, int monument, int stepX, int stepY) {
        index(in(deed, 0, deeds.size() - 1) && in(monument, -1, pointCount - 1));
        argument(in(stepX, -999, 999) && in(stepY, -999, 999));
        state(deeds.get(deed).size() < 10);
        deeds.get(deed).add(new Corner(monument, stepX, stepY));
        return deeds.get(deed).size();
    }

    /** The place of a corner: its monument's, or one step on from the corner ahead; null if there is none. */
    private int[] place(int deed, int version, int corner) {
        Corner told = deeds.get(deed).get(corner);
        int[] monument = monument(told, version);
        if (monument != null || corner == 0) {
            return monument;
        }
        int[] ahead = place(deed, version, corner - 1);
        return ahead == null ? null : new int[] {ahead[0] + told.stepX, ahead[1] + told.stepY};
    }

    private int[] monument(Corner corner, int version) {
        Exact[][] places = versions.get(version).places;
        if (corner.monument < 0 || places[0][corner.monument] == null || places[1][corner.monument] == null) {
            return null;
        }
        return new int[] {places[0][corner.monument].half(), places[1][corner.monument].half()};
    }

    private int[][] ring(int deed, int version) {
        index(in(deed, 0, deeds.size() - 1) && in(version, 0, versions.size() - 1));
        int[][] ring = new int[deeds.get(deed).size()][];
        element(ring.length > 0 && place(deed, version, 0) != null);
        for (int corner = 0; corner < ring.length; corner++) {
            ring[corner] = place(deed, version, corner);
        }
        return ring;
    }

    public int placeOf(int deed, int version, int corner, int axis) {
        index(in(deed, 0, deeds.size() - 1) && in(version, 0, versions.size() - 1));
        index(in(corner, 0, deeds.get(deed).size() - 1) && in(axis, 0, 1));
        return ring(deed, version)[corner][axis];
    }

    /** By triangles from the first corner. */
    public long area(int deed, int version) {
        int[][] ring = ring(deed, version);
        long area = 0;
        for (int corner = 2; corner < ring.length; corner++) {
            long x1 = ring[corner - 1][0] - ring[0][0];
            long y1 = ring[corner - 1][1] - ring[0][1];
            long x2 = ring[corner][0] - ring[0][0];
            long y2 = ring[corner][1] - ring[0][1];
            area += x1 * y2 - x2 * y1;
        }
        return area < 0 ? -area : area;
    }

    public int yields(int deed, int version) {
        int[][] ring = ring(deed, version);
        int count = 0;
        for (int corner = 1; corner < ring.length; corner++) {
            Corner told = deeds.get(deed).get(corner);
            int[] at = monument(told, version);
            if (at != null) {
                int offX = ring[corner - 1][0] + told.stepX - at[0];
                int offY = ring[corner - 1][1] + told.stepY - at[1];
                count += in(offX, -5, 5) && in(offY, -5, 5) ? 0 : 1;
            }
        }
        return count;
    }

    public int masked() {
        return (int) hidden.stream().filter(is -> is).count();
    }

    public float usedShare() {
        if (all.isEmpty()) {
            throw new ArithmeticException();
        }
        int used = 0;
        for (Told told : all) {
            used += isInUse(told.number) ? 1 : 0;
        }
        return (float) used / (float) all.size();
    }

    public double meanTold() {
        if (all.isEmpty()) {
            throw new ArithmeticException();
        }
        long sum = 0;
        for (Told told : all) {
            sum += told.value < 0 ? -told.value : told.value;
        }
        return (double) sum / (double) all.size();
    }

    public boolean isSound() {
        return true;
    }
}
