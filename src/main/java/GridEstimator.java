/** Estimates the angles of a small grid from meters of flows and injections, in exact fractions. */
public final class GridEstimator {
    public static final int NONE = -1;
    public static final int FLOW = 0, INJECTION = 1;

    private static final int FEWEST_BUSES = 2;
    private static final int MOST_BUSES = 5;
    private static final int MOST_LINES = 8;
    private static final int MOST_STRENGTH = 2;
    private static final int MOST_METERS = 10;
    private static final int MOST_READING = 50;
    private static final int MOST_ACCURACY = 2;
    private static final int MOST_LIMIT = 200;
    private static final int COLUMN_SETS = 1 << MOST_BUSES;
    // Euclid's algorithm needs less than a hundred divisions for two longs.
    private static final int MOST_DIVISIONS = 1000;

    private final Grid grid;
    private final Meters meters;
    private final Observation observation;
    private final Estimate estimate;

    public GridEstimator(int buses) {
        grid = new Grid(Math.max(FEWEST_BUSES, Math.min(buses, MOST_BUSES)));
        meters = new Meters(grid);
        observation = new Observation(grid, meters);
        estimate = new Estimate(grid, meters);
    }

    // ---- grid

    public int addLine(int first, int second, int strength)
            throws IndexOutOfBoundsException, IllegalArgumentException, IllegalStateException {
        requireBus(first);
        requireBus(second);
        if (first == second) {
            throw new IllegalArgumentException("a line joins two buses");
        }
        if (strength < 1 || strength > MOST_STRENGTH) {
            throw new IllegalArgumentException("the strength is out of range");
        }
        if (grid.isFull()) {
            throw new IllegalStateException("there are as many lines as there may be");
        }
        if (grid.hasLineBetween(first, second)) {
            throw new IllegalStateException("a line joins these buses");
        }
        return grid.append(first, second, strength);
    }

    public boolean setBreaker(int line, boolean isClosed) throws IndexOutOfBoundsException {
        if (!grid.hasLine(line)) {
            throw new IndexOutOfBoundsException("there is no such line");
        }
        return grid.switchTo(line, isClosed);
    }

    public int islands() {
        int count = 0;
        for (int bus = 0; bus < grid.buses; bus++) {
            if (grid.references[bus] == bus) {
                count++;
            }
        }
        return count;
    }

    public int reference(int bus) throws IndexOutOfBoundsException {
        requireBus(bus);
        return grid.references[bus];
    }

    // ---- meters

    public int addMeter(int kind, int place, int reading, int accuracy)
            throws IllegalArgumentException, IndexOutOfBoundsException, IllegalStateException {
        if (kind != FLOW && kind != INJECTION) {
            throw new IllegalArgumentException("there is no such kind of meter");
        }
        requireReading(reading);
        if (accuracy < 1 || accuracy > MOST_ACCURACY) {
            throw new IllegalArgumentException("the accuracy is out of range");
        }
        if (kind == FLOW ? !grid.hasLine(place) : !grid.hasBus(place)) {
            throw new IndexOutOfBoundsException("there is no such line or bus");
        }
        if (meters.isFull()) {
            throw new IllegalStateException("there are as many meters as there may be");
        }
        return meters.append(kind, place, reading, accuracy);
    }

    public int read(int meter, int reading) throws IndexOutOfBoundsException, IllegalArgumentException {
        requireMeter(meter);
        requireReading(reading);
        int before = meters.readings[meter];
        meters.readings[meter] = reading;
        return before;
    }

    public boolean use(int meter, boolean isUsed) throws IndexOutOfBoundsException {
        requireMeter(meter);
        boolean wasUsed = meters.isUsed[meter];
        meters.isUsed[meter] = isUsed;
        return wasUsed;
    }

    public int countsIn(int meter) throws IndexOutOfBoundsException {
        requireMeter(meter);
        return meters.islandOf(meter);
    }

    // ---- observability

    public int rank(int bus) throws IndexOutOfBoundsException {
        requireBus(bus);
        return observation.rankWithout(NONE, grid.references[bus]);
    }

    public boolean isObservable(int bus) throws IndexOutOfBoundsException {
        requireBus(bus);
        return observation.suffices(grid.references[bus]);
    }

    public boolean isCritical(int meter) throws IndexOutOfBoundsException {
        requireMeter(meter);
        return observation.needs(meter);
    }

    // ---- estimates

    public long angleNumerator(int bus) throws IndexOutOfBoundsException, IllegalStateException {
        estimateIslandOf(bus);
        long angle = estimate.angles[bus];
        return angle / commonDivisor(angle, estimate.denominator);
    }

    public long angleDenominator(int bus) throws IndexOutOfBoundsException, IllegalStateException {
        estimateIslandOf(bus);
        return estimate.denominator / commonDivisor(estimate.angles[bus], estimate.denominator);
    }

    public long residualNumerator(int meter) throws IndexOutOfBoundsException, IllegalStateException {
        estimateAround(meter);
        long residual = estimate.residual(meter);
        return residual / commonDivisor(residual, estimate.denominator);
    }

    public long residualDenominator(int meter) throws IndexOutOfBoundsException, IllegalStateException {
        estimateAround(meter);
        return estimate.denominator / commonDivisor(estimate.residual(meter), estimate.denominator);
    }

    public int worst(int bus) throws IndexOutOfBoundsException, IllegalStateException {
        estimateIslandOf(bus);
        return estimate.worstMeter(grid.references[bus]);
    }

    public int clean(int bus, int limit)
            throws IndexOutOfBoundsException, IllegalArgumentException, IllegalStateException {
        requireBus(bus);
        if (limit < 0 || limit > MOST_LIMIT) {
            throw new IllegalArgumentException("the limit is out of range");
        }
        int reference = grid.references[bus];
        requireObservable(reference);
        int dropped = 0;
        while (dropped < MOST_METERS && dropWorst(reference, limit)) {
            dropped++;
        }
        return dropped;
    }

    private boolean dropWorst(int reference, int limit) {
        estimate.solve(reference);
        int meter = estimate.worstMeter(reference);
        if (meter == NONE || !estimate.isAbove(meter, limit) || observation.needs(meter)) {
            return false;
        }
        meters.isUsed[meter] = false;
        return true;
    }

    private void estimateIslandOf(int bus) {
        requireBus(bus);
        requireObservable(grid.references[bus]);
        estimate.solve(grid.references[bus]);
    }

    private void estimateAround(int meter) {
        requireMeter(meter);
        int reference = meters.islandIfUsed(meter);
        if (reference == NONE) {
            throw new IllegalStateException("the meter would count nowhere");
        }
        requireObservable(reference);
        estimate.solve(reference);
    }

    private void requireBus(int bus) {
        if (!grid.hasBus(bus)) {
            throw new IndexOutOfBoundsException("there is no such bus");
        }
    }

    private void requireMeter(int meter) {
        if (!meters.hasMeter(meter)) {
            throw new IndexOutOfBoundsException("there is no such meter");
        }
    }

    private void requireReading(int reading) {
        if (reading < -MOST_READING || reading > MOST_READING) {
            throw new IllegalArgumentException("the reading is out of range");
        }
    }

    private void requireObservable(int reference) {
        if (!observation.suffices(reference)) {
            throw new IllegalStateException("the island is not observable");
        }
    }

    /** Returns at least 1, so that it can divide. */
    private static long commonDivisor(long numerator, long denominator) {
        long larger = Math.abs(denominator);
        long smaller = Math.abs(numerator);
        for (int division = 0; division < MOST_DIVISIONS && smaller != 0; division++) {
            long rest = larger % smaller;
            larger = smaller;
            smaller = rest;
        }
        return Math.max(1, larger);
    }

    /** The lines, and the islands into which their breakers split the buses. */
    private static final class Grid {
        private final int buses;
        private int lines = 0;
        private final int[] firsts = new int[MOST_LINES];
        private final int[] seconds = new int[MOST_LINES];
        private final int[] strengths = new int[MOST_LINES];
        private final boolean[] isClosed = new boolean[MOST_LINES];
        // A place beyond the last bus keeps its own number, so it is in no island of a bus.
        private final int[] references = new int[MOST_BUSES];
        // By how much a flow, or an injection, grows when the angle of a bus grows by 1.
        private final int[][] flowGrowths = new int[MOST_LINES][MOST_BUSES];
        private final int[][] injectionGrowths = new int[MOST_BUSES][MOST_BUSES];

        Grid(int buses) {
            this.buses = buses;
            followLines();
        }

        boolean hasBus(int bus) {
            return bus >= 0 && bus < buses;
        }

        boolean hasLine(int line) {
            return line >= 0 && line < lines;
        }

        boolean isFull() {
            return lines >= MOST_LINES;
        }

        boolean hasLineBetween(int bus, int other) {
            for (int line = 0; line < lines; line++) {
                if (firsts[line] == bus && seconds[line] == other
                        || firsts[line] == other && seconds[line] == bus) {
                    return true;
                }
            }
            return false;
        }

        int append(int first, int second, int strength) {
            int line = lines;
            firsts[line] = first;
            seconds[line] = second;
            strengths[line] = strength;
            isClosed[line] = true;
            lines++;
            followLines();
            return line;
        }

        /** Returns whether the breaker was closed. */
        boolean switchTo(int line, boolean closed) {
            boolean wasClosed = isClosed[line];
            isClosed[line] = closed;
            followLines();
            return wasClosed;
        }

        private void followLines() {
            findReferences();
            findFlowGrowths();
            findInjectionGrowths();
        }

        private void findReferences() {
            for (int bus = 0; bus < MOST_BUSES; bus++) {
                references[bus] = bus;
            }
            // The lowest number of an island goes at least one line further in each round.
            for (int round = 1; round < MOST_BUSES; round++) {
                for (int line = 0; line < lines; line++) {
                    if (isClosed[line]) {
                        shareReference(firsts[line], seconds[line]);
                    }
                }
            }
        }

        private void shareReference(int bus, int other) {
            int lower = Math.min(references[bus], references[other]);
            references[bus] = lower;
            references[other] = lower;
        }

        private void findFlowGrowths() {
            for (int line = 0; line < lines; line++) {
                int strength = isClosed[line] ? strengths[line] : 0;
                flowGrowths[line][firsts[line]] = strength;
                flowGrowths[line][seconds[line]] = -strength;
            }
        }

        private void findInjectionGrowths() {
            for (int bus = 0; bus < MOST_BUSES; bus++) {
                for (int place = 0; place < MOST_BUSES; place++) {
                    injectionGrowths[place][bus] = 0;
                }
                for (int line = 0; line < lines; line++) {
                    injectionGrowths[firsts[line]][bus] += flowGrowths[line][bus];
                    injectionGrowths[seconds[line]][bus] -= flowGrowths[line][bus];
                }
            }
        }

        boolean isUnknown(int bus, int reference) {
            return references[bus] == reference && bus != reference;
        }

        int countUnknown(int reference) {
            int count = 0;
            for (int bus = 0; bus < MOST_BUSES; bus++) {
                if (isUnknown(bus, reference)) {
                    count++;
                }
            }
            return count;
        }
    }

    /** The meters, and what each of them measures in the grid. */
    private static final class Meters {
        private final Grid grid;
        private int count = 0;
        private final int[] kinds = new int[MOST_METERS];
        private final int[] places = new int[MOST_METERS];
        private final int[] readings = new int[MOST_METERS];
        private final int[] accuracies = new int[MOST_METERS];
        private final boolean[] isUsed = new boolean[MOST_METERS];

        Meters(Grid grid) {
            this.grid = grid;
        }

        boolean hasMeter(int meter) {
            return meter >= 0 && meter < count;
        }

        boolean isFull() {
            return count >= MOST_METERS;
        }

        int append(int kind, int place, int reading, int accuracy) {
            int meter = count;
            kinds[meter] = kind;
            places[meter] = place;
            readings[meter] = reading;
            accuracies[meter] = accuracy;
            isUsed[meter] = true;
            count++;
            return meter;
        }

        /** Returns the reference of the island in which a meter counts, or NONE. */
        int islandOf(int meter) {
            return isUsed[meter] ? islandIfUsed(meter) : NONE;
        }

        int islandIfUsed(int meter) {
            int place = places[meter];
            if (kinds[meter] == INJECTION) {
                return grid.references[place];
            }
            return grid.isClosed[place] ? grid.references[grid.firsts[place]] : NONE;
        }

        /** Tells by how much what a meter measures grows when the angle of a bus grows by 1. */
        int growth(int meter, int bus) {
            int place = places[meter];
            return kinds[meter] == INJECTION ? grid.injectionGrowths[place][bus] : grid.flowGrowths[place][bus];
        }
    }

    /** Tells by the rank of the meters' rows whether they suffice for an island. */
    private static final class Observation {
        private final Grid grid;
        private final Meters meters;
        private final long[][] rows = new long[MOST_METERS][MOST_BUSES];

        Observation(Grid grid, Meters meters) {
            this.grid = grid;
            this.meters = meters;
        }

        boolean suffices(int reference) {
            return rankWithout(NONE, reference) == grid.countUnknown(reference);
        }

        boolean needs(int meter) {
            int reference = meters.islandOf(meter);
            if (reference == NONE) {
                return false;
            }
            int unknown = grid.countUnknown(reference);
            return rankWithout(NONE, reference) == unknown && rankWithout(meter, reference) < unknown;
        }

        int rankWithout(int leftOut, int reference) {
            fillRows(leftOut, reference);
            int found = 0;
            for (int bus = 0; bus < MOST_BUSES; bus++) {
                if (raisePivot(found, bus)) {
                    clearBelow(found, bus);
                    found++;
                }
            }
            return found;
        }

        /** A row of zeros stands for each meter that doesn't take part. */
        private void fillRows(int leftOut, int reference) {
            for (int meter = 0; meter < MOST_METERS; meter++) {
                boolean takesPart = meter < meters.count && meter != leftOut
                        && meters.islandOf(meter) == reference;
                for (int bus = 0; bus < MOST_BUSES; bus++) {
                    rows[meter][bus] = takesPart && bus != reference ? meters.growth(meter, bus) : 0;
                }
            }
        }

        private boolean raisePivot(int top, int bus) {
            for (int row = top; row < MOST_METERS; row++) {
                if (rows[row][bus] != 0) {
                    long[] raised = rows[row];
                    rows[row] = rows[top];
                    rows[top] = raised;
                    return true;
                }
            }
            return false;
        }

        // Entries start at 8 at the most and are below 2^32 after three pivots; a fourth is the last one,
        // so that all products fit into a long.
        private void clearBelow(int top, int bus) {
            long pivot = rows[top][bus];
            for (int row = top + 1; row < MOST_METERS; row++) {
                long factor = rows[row][bus];
                for (int column = 0; column < MOST_BUSES; column++) {
                    rows[row][column] = pivot * rows[row][column] - factor * rows[top][column];
                }
            }
        }
    }

    /** The least squares of one observable island, solved by Cramer's rule over one denominator. */
    private static final class Estimate {
        private final Grid grid;
        private final Meters meters;
        private final long[][] left = new long[MOST_BUSES][MOST_BUSES];
        private final long[] right = new long[MOST_BUSES];
        private final long[] minors = new long[COLUMN_SETS];
        private final long[] angles = new long[MOST_BUSES];
        private long denominator = 1;

        Estimate(Grid grid, Meters meters) {
            this.grid = grid;
            this.meters = meters;
        }

        /** Asks for an observable island: only there is the denominator above 0. */
        void solve(int reference) {
            startEquations(reference);
            for (int meter = 0; meter < meters.count; meter++) {
                if (meters.islandOf(meter) == reference) {
                    addToEquations(meter, reference);
                }
            }
            denominator = determinant(NONE);
            for (int bus = 0; bus < MOST_BUSES; bus++) {
                angles[bus] = determinant(bus);
            }
        }

        /** A bus whose angle is not looked for gets the equation that its angle is 0. */
        private void startEquations(int reference) {
            for (int bus = 0; bus < MOST_BUSES; bus++) {
                for (int other = 0; other < MOST_BUSES; other++) {
                    left[bus][other] = 0;
                }
                left[bus][bus] = grid.isUnknown(bus, reference) ? 0 : 1;
                right[bus] = 0;
            }
        }

        private void addToEquations(int meter, int reference) {
            long weight = (long) meters.accuracies[meter] * meters.accuracies[meter];
            for (int bus = 0; bus < MOST_BUSES; bus++) {
                if (grid.isUnknown(bus, reference)) {
                    long weighted = weight * meters.growth(meter, bus);
                    right[bus] += weighted * meters.readings[meter];
                    for (int other = 0; other < MOST_BUSES; other++) {
                        if (grid.isUnknown(other, reference)) {
                            left[bus][other] += weighted * meters.growth(meter, other);
                        }
                    }
                }
            }
        }

        /**
         * The determinant of the left side, the right side standing in one of its columns unless that is NONE.
         * It is built up from minors, without a division: by Hadamard's bound all of them fit into a long.
         */
        private long determinant(int replaced) {
            minors[0] = 1;
            for (int row = 0; row < MOST_BUSES; row++) {
                for (int set = 0; set < COLUMN_SETS; set++) {
                    if (Integer.bitCount(set) == row + 1) {
                        minors[set] = minor(row, set, replaced);
                    }
                }
            }
            return minors[COLUMN_SETS - 1];
        }

        /** Expands along its last row the minor of a set of columns and of the rows up to this one. */
        private long minor(int row, int set, int replaced) {
            long sum = 0;
            int sign = 1;
            for (int column = MOST_BUSES - 1; column >= 0; column--) {
                int bit = 1 << column;
                if ((set & bit) != 0) {
                    long entry = column == replaced ? right[row] : left[row][column];
                    sum += sign * entry * minors[set - bit];
                    sign = -sign;
                }
            }
            return sum;
        }

        /** The residual of a meter, times the denominator. */
        long residual(int meter) {
            long residual = meters.readings[meter] * denominator;
            for (int bus = 0; bus < MOST_BUSES; bus++) {
                residual -= meters.growth(meter, bus) * angles[bus];
            }
            return residual;
        }

        private long weightedSize(int meter) {
            return meters.accuracies[meter] * Math.abs(residual(meter));
        }

        boolean isAbove(int meter, int limit) {
            return weightedSize(meter) > limit * denominator;
        }

        int worstMeter(int reference) {
            int worst = NONE;
            long greatest = 0;
            for (int meter = 0; meter < meters.count; meter++) {
                if (meters.islandOf(meter) == reference && weightedSize(meter) > greatest) {
                    worst = meter;
                    greatest = weightedSize(meter);
                }
            }
            return worst;
        }
    }
}
