import java.math.BigInteger;
import java.util.ArrayList;
import java.util.Arrays;
import java.util.List;

/**
 * The document once more, by other means than the program's: islands by a search, what a meter measures by the
 * flows of given angles, equations solved in fractions without a bound.
 */
final class ExactModel {
    private record Line(int first, int second, int strength) {
        boolean joins(int bus, int other) {
            return first == bus && second == other || first == other && second == bus;
        }
    }

    private record Meter(int kind, int place, int accuracy) {
    }

    private final int buses;
    private final List<Line> lines = new ArrayList<>();
    private final List<Boolean> closed = new ArrayList<>();
    private final List<Meter> meters = new ArrayList<>();
    private final List<Integer> readings = new ArrayList<>();
    private final List<Boolean> used = new ArrayList<>();

    ExactModel(int buses) {
        this.buses = buses < 2 ? 2 : buses > 5 ? 5 : buses;
    }

    int addLine(int first, int second, int strength) {
        needBus(first);
        needBus(second);
        need(first != second && (strength == 1 || strength == 2));
        needState(lines.size() < 8 && lines.stream().noneMatch(line -> line.joins(first, second)));
        lines.add(new Line(first, second, strength));
        closed.add(true);
        return lines.size() - 1;
    }

    boolean setBreaker(int line, boolean isClosed) {
        needIndex(line, lines.size());
        return closed.set(line, isClosed);
    }

    int islands() {
        int count = 0;
        for (int bus = 0; bus < buses; bus++) {
            count += reference(bus) == bus ? 1 : 0;
        }
        return count;
    }

    int reference(int bus) {
        needBus(bus);
        return island(bus).get(0);
    }

    int addMeter(int kind, int place, int reading, int accuracy) {
        need((kind == 0 || kind == 1) && isReading(reading) && (accuracy == 1 || accuracy == 2));
        needIndex(place, kind == 0 ? lines.size() : buses);
        needState(meters.size() < 10);
        meters.add(new Meter(kind, place, accuracy));
        readings.add(reading);
        used.add(true);
        return meters.size() - 1;
    }

    int read(int meter, int reading) {
        needIndex(meter, meters.size());
        need(isReading(reading));
        return readings.set(meter, reading);
    }

    boolean use(int meter, boolean isUsed) {
        needIndex(meter, meters.size());
        return used.set(meter, isUsed);
    }

    int countsIn(int meter) {
        needIndex(meter, meters.size());
        return used.get(meter) ? wouldCountIn(meter) : -1;
    }

    int rank(int bus) {
        needBus(bus);
        List<Fraction[]> rows = new ArrayList<>();
        for (int meter : countingWith(bus)) {
            rows.add(row(meter, unknowns(bus)));
        }
        return eliminate(rows, unknowns(bus).size());
    }

    boolean isObservable(int bus) {
        return rank(bus) == island(bus).size() - 1;
    }

    boolean isCritical(int meter) {
        int reference = countsIn(meter);
        if (reference == -1 || !isObservable(reference)) {
            return false;
        }
        used.set(meter, false);
        boolean suffices = isObservable(reference);
        used.set(meter, true);
        return !suffices;
    }

    BigInteger angleNumerator(int bus) {
        return angle(bus).top();
    }

    BigInteger angleDenominator(int bus) {
        return angle(bus).bottom();
    }

    BigInteger residualNumerator(int meter) {
        return residual(meter).top();
    }

    BigInteger residualDenominator(int meter) {
        return residual(meter).bottom();
    }

    int worst(int bus) {
        needBus(bus);
        needState(isObservable(bus));
        int worst = -1;
        Fraction greatest = Fraction.ZERO;
        for (int meter : countingWith(bus)) {
            Fraction size = weighted(meter);
            if (size.isAbove(greatest)) {
                worst = meter;
                greatest = size;
            }
        }
        return worst;
    }

    int clean(int bus, int limit) {
        needBus(bus);
        need(limit >= 0 && limit <= 200);
        needState(isObservable(bus));
        int dropped = 0;
        for (int worst = worst(bus); worst != -1; worst = worst(bus)) {
            if (!weighted(worst).isAbove(Fraction.of(limit)) || isCritical(worst)) {
                break;
            }
            used.set(worst, false);
            dropped++;
        }
        return dropped;
    }

    private Fraction weighted(int meter) {
        return residual(meter).size().times(Fraction.of(meters.get(meter).accuracy));
    }

    private Fraction angle(int bus) {
        needBus(bus);
        needState(isObservable(bus));
        return estimate(bus)[bus];
    }

    private Fraction residual(int meter) {
        needIndex(meter, meters.size());
        int reference = wouldCountIn(meter);
        needState(reference != -1 && isObservable(reference));
        return Fraction.of(readings.get(meter)).minus(measured(meter, estimate(reference)));
    }

    /** The buses of an island, the lowest first. */
    private List<Integer> island(int bus) {
        boolean[] reached = new boolean[buses];
        reach(bus, reached);
        List<Integer> island = new ArrayList<>();
        for (int other = 0; other < buses; other++) {
            if (reached[other]) {
                island.add(other);
            }
        }
        return island;
    }

    private void reach(int bus, boolean[] reached) {
        reached[bus] = true;
        for (int other = 0; other < buses; other++) {
            if (!reached[other] && isJoined(bus, other)) {
                reach(other, reached);
            }
        }
    }

    private boolean isJoined(int bus, int other) {
        for (int line = 0; line < lines.size(); line++) {
            if (closed.get(line) && lines.get(line).joins(bus, other)) {
                return true;
            }
        }
        return false;
    }

    private List<Integer> unknowns(int bus) {
        List<Integer> island = island(bus);
        return island.subList(1, island.size());
    }

    private int wouldCountIn(int meter) {
        Meter asked = meters.get(meter);
        if (asked.kind == 1) {
            return island(asked.place).get(0);
        }
        return closed.get(asked.place) ? island(lines.get(asked.place).first).get(0) : -1;
    }

    private List<Integer> countingWith(int bus) {
        List<Integer> counting = new ArrayList<>();
        for (int meter = 0; meter < meters.size(); meter++) {
            if (countsIn(meter) == island(bus).get(0)) {
                counting.add(meter);
            }
        }
        return counting;
    }

    private Fraction flow(int line, Fraction[] angles) {
        Line asked = lines.get(line);
        if (!closed.get(line)) {
            return Fraction.ZERO;
        }
        return Fraction.of(asked.strength).times(angles[asked.first].minus(angles[asked.second]));
    }

    private Fraction measured(int meter, Fraction[] angles) {
        Meter asked = meters.get(meter);
        if (asked.kind == 0) {
            return flow(asked.place, angles);
        }
        Fraction sum = Fraction.ZERO;
        for (int line = 0; line < lines.size(); line++) {
            if (lines.get(line).first == asked.place) {
                sum = sum.plus(flow(line, angles));
            }
            if (lines.get(line).second == asked.place) {
                sum = sum.minus(flow(line, angles));
            }
        }
        return sum;
    }

    private Fraction[] row(int meter, List<Integer> unknowns) {
        Fraction[] row = new Fraction[unknowns.size()];
        for (int i = 0; i < row.length; i++) {
            Fraction[] angles = zeros(buses);
            angles[unknowns.get(i)] = Fraction.of(1);
            row[i] = measured(meter, angles);
        }
        return row;
    }

    private Fraction[] estimate(int bus) {
        List<Integer> unknowns = unknowns(bus);
        int count = unknowns.size();
        List<Fraction[]> equations = new ArrayList<>();
        for (int i = 0; i < count; i++) {
            equations.add(zeros(count + 1));
        }
        for (int meter : countingWith(bus)) {
            Fraction weight = Fraction.of((long) meters.get(meter).accuracy * meters.get(meter).accuracy);
            Fraction[] row = Arrays.copyOf(row(meter, unknowns), count + 1);
            row[count] = Fraction.of(readings.get(meter));
            for (int i = 0; i < count; i++) {
                for (int j = 0; j <= count; j++) {
                    Fraction[] equation = equations.get(i);
                    equation[j] = equation[j].plus(weight.times(row[i]).times(row[j]));
                }
            }
        }
        eliminate(equations, count);
        Fraction[] angles = zeros(buses);
        for (int i = 0; i < count; i++) {
            angles[unknowns.get(i)] = equations.get(i)[count];
        }
        return angles;
    }

    /** Brings rows into reduced form over their first columns, and returns their rank there. */
    private static int eliminate(List<Fraction[]> rows, int columns) {
        int rank = 0;
        for (int column = 0; column < columns; column++) {
            int pivot = rank;
            while (pivot < rows.size() && rows.get(pivot)[column].isZero()) {
                pivot++;
            }
            if (pivot == rows.size()) {
                continue;
            }
            Fraction[] top = rows.set(pivot, rows.get(rank));
            Fraction by = top[column];
            Arrays.setAll(top, j -> top[j].over(by));
            rows.set(rank, top);
            for (Fraction[] row : rows) {
                if (row != top) {
                    Fraction factor = row[column];
                    Arrays.setAll(row, j -> row[j].minus(factor.times(top[j])));
                }
            }
            rank++;
        }
        return rank;
    }

    private static Fraction[] zeros(int count) {
        Fraction[] zeros = new Fraction[count];
        Arrays.fill(zeros, Fraction.ZERO);
        return zeros;
    }

    private static boolean isReading(int reading) {
        return reading >= -50 && reading <= 50;
    }

    private void needBus(int bus) {
        needIndex(bus, buses);
    }

    private static void needIndex(int index, int count) {
        if (index < 0 || index >= count) {
            throw new IndexOutOfBoundsException();
        }
    }

    private static void need(boolean isInRange) {
        if (!isInRange) {
            throw new IllegalArgumentException();
        }
    }

    private static void needState(boolean isRight) {
        if (!isRight) {
            throw new IllegalStateException();
        }
    }
}
