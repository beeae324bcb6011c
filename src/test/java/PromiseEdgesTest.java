/** Each sentence on a boundary that stands in one of the document's promises has a test of its own here. */
public final class PromiseEdgesTest {
    private static final int NONE = GridEstimator.NONE;
    private static final int FLOW = GridEstimator.FLOW;
    private static final int INJECTION = GridEstimator.INJECTION;
    private static final Class<IndexOutOfBoundsException> INDEX = IndexOutOfBoundsException.class;
    private static final Class<IllegalArgumentException> ARGUMENT = IllegalArgumentException.class;
    private static final Class<IllegalStateException> STATE = IllegalStateException.class;
    private static final int LEAST = Integer.MIN_VALUE, MOST = Integer.MAX_VALUE;

    private static final Due due = new Due();

    public static void main(String[] args) {
        due.run(PromiseEdgesTest::newObject);
        due.run(PromiseEdgesTest::newObjectOfBuses);
        due.run(PromiseEdgesTest::addLineFirst);
        due.run(PromiseEdgesTest::addLineSecond);
        due.run(PromiseEdgesTest::addLineStrength);
        due.run(PromiseEdgesTest::addLineNumber);
        due.run(PromiseEdgesTest::addLineNoBus);
        due.run(PromiseEdgesTest::addLineOutOfRange);
        due.run(PromiseEdgesTest::addLineFull);
        due.run(PromiseEdgesTest::addLineJoined);
        due.run(PromiseEdgesTest::setBreakerClosesOrOpens);
        due.run(PromiseEdgesTest::setBreakerReturns);
        due.run(PromiseEdgesTest::setBreakerNoLine);
        due.run(PromiseEdgesTest::islands);
        due.run(PromiseEdgesTest::referenceReturns);
        due.run(PromiseEdgesTest::referenceNoBus);
        due.run(PromiseEdgesTest::addMeterKind);
        due.run(PromiseEdgesTest::addMeterPlace);
        due.run(PromiseEdgesTest::addMeterReading);
        due.run(PromiseEdgesTest::addMeterAccuracy);
        due.run(PromiseEdgesTest::addMeterNumber);
        due.run(PromiseEdgesTest::addMeterOutOfRange);
        due.run(PromiseEdgesTest::addMeterNoPlace);
        due.run(PromiseEdgesTest::addMeterFull);
        due.run(PromiseEdgesTest::readReading);
        due.run(PromiseEdgesTest::readReturns);
        due.run(PromiseEdgesTest::readNoMeter);
        due.run(PromiseEdgesTest::readOutOfRange);
        due.run(PromiseEdgesTest::useUsesOrDrops);
        due.run(PromiseEdgesTest::useReturns);
        due.run(PromiseEdgesTest::useNoMeter);
        due.run(PromiseEdgesTest::countsIn);
        due.run(PromiseEdgesTest::countsInNoMeter);
        due.run(PromiseEdgesTest::rank);
        due.run(PromiseEdgesTest::rankNoBus);
        due.run(PromiseEdgesTest::isObservable);
        due.run(PromiseEdgesTest::isObservableNoBus);
        due.run(PromiseEdgesTest::isCritical);
        due.run(PromiseEdgesTest::isCriticalNot);
        due.run(PromiseEdgesTest::isCriticalNoMeter);
        due.run(PromiseEdgesTest::angles);
        due.run(PromiseEdgesTest::anglesNoBus);
        due.run(PromiseEdgesTest::anglesNotObservable);
        due.run(PromiseEdgesTest::residuals);
        due.run(PromiseEdgesTest::residualsOfDropped);
        due.run(PromiseEdgesTest::residualsNoMeter);
        due.run(PromiseEdgesTest::residualsNowhere);
        due.run(PromiseEdgesTest::residualsNotObservable);
        due.run(PromiseEdgesTest::worst);
        due.run(PromiseEdgesTest::worstNoBus);
        due.run(PromiseEdgesTest::worstNotObservable);
        due.run(PromiseEdgesTest::cleanAboveLimit);
        due.run(PromiseEdgesTest::cleanAsLongAs);
        due.run(PromiseEdgesTest::cleanNotCritical);
        due.run(PromiseEdgesTest::cleanLimit);
        due.run(PromiseEdgesTest::cleanReturns);
        due.run(PromiseEdgesTest::cleanNoBus);
        due.run(PromiseEdgesTest::cleanOutOfRange);
        due.run(PromiseEdgesTest::cleanNotObservable);
        due.close();
    }

    // ---- promise 1

    private static void newObject() {
        due.by("Promise 1: A grid without lines and meters.");
        for (int buses = 2; buses <= 5; buses++) {
            int count = buses;
            GridEstimator grid = new GridEstimator(buses);
            due.answers("islands of " + buses, count, grid::islands);
            due.fails("no line", INDEX, () -> grid.setBreaker(0, false));
            due.fails("no flow to meter", INDEX, () -> grid.addMeter(FLOW, 0, 0, 1));
            due.fails("no meter", INDEX, () -> grid.countsIn(0));
            due.answers("the first line", 0, () -> grid.addLine(count - 1, 0, 1));
            due.answers("the first meter", 0, () -> grid.addMeter(INJECTION, count - 1, 0, 1));
        }
    }

    private static void newObjectOfBuses() {
        due.by("Promise 1: buses: 2 to 5; less counts as 2, more as 5");
        int[] asked = {LEAST, LEAST + 1, -5, -2, -1, 0, 1, 2, 3, 4, 5, 6, 7, 8, 100, MOST - 1, MOST};
        int[] counted = {2, 2, 2, 2, 2, 2, 2, 2, 3, 4, 5, 5, 5, 5, 5, 5, 5};
        for (int i = 0; i < asked.length; i++) {
            int count = counted[i];
            GridEstimator grid = new GridEstimator(asked[i]);
            due.answers("islands of " + asked[i], count, grid::islands);
            due.answers("the last bus of " + asked[i], count - 1, () -> grid.reference(count - 1));
            due.fails("none beyond the last of " + asked[i], INDEX, () -> grid.reference(count));
        }
    }

    // ---- promise 2

    private static void addLineFirst() {
        due.by("Promise 2: first: its first bus");
        GridEstimator lowest = Grids.of(5, "0-4");
        Grids.flows(lowest, 0, 1, 9);
        due.answers("the lowest is the first", -9L, () -> lowest.angleNumerator(4));
        GridEstimator highest = Grids.of(5, "4-0");
        Grids.flows(highest, 0, 1, 9);
        due.answers("the highest is the first", 9L, () -> highest.angleNumerator(4));
    }

    private static void addLineSecond() {
        due.by("Promise 2: second: its second bus, another one");
        for (int bus = 0; bus < 5; bus++) {
            int same = bus;
            GridEstimator grid = new GridEstimator(5);
            due.fails("the same, " + bus, ARGUMENT, () -> grid.addLine(same, same, 1));
            due.answers("another one", 0, () -> grid.addLine(same, (same + 1) % 5, 1));
        }
    }

    private static void addLineStrength() {
        due.by("Promise 2: strength: 1 or 2");
        for (int strength = 1; strength <= 2; strength++) {
            int given = strength;
            GridEstimator grid = new GridEstimator(2);
            due.answers("strength " + strength, 0, () -> grid.addLine(1, 0, given));
            Grids.flows(grid, 0, 1, 46);
            due.answers("the angle at strength " + strength, 46L / strength, () -> grid.angleNumerator(1));
        }
    }

    private static void addLineNumber() {
        due.by("Promise 2: Returns its number.");
        GridEstimator grid = new GridEstimator(5);
        due.answers("the first", 0, () -> grid.addLine(3, 4, 1));
        due.fails("a refused one", STATE, () -> grid.addLine(4, 3, 1));
        due.answers("no number is lost by it", 1, () -> grid.addLine(2, 4, 1));
        grid.setBreaker(1, false);
        due.answers("an open one keeps its number", 2, () -> grid.addLine(2, 3, 1));
    }

    private static void addLineNoBus() {
        due.by("Promise 2: Throws IndexOutOfBoundsException if there is no such bus");
        for (int buses = 2; buses <= 5; buses++) {
            for (int bus : new int[] {LEAST, -2, -1, buses, buses + 1, MOST}) {
                GridEstimator grid = new GridEstimator(buses);
                due.fails("first " + bus + " of " + buses, INDEX, () -> grid.addLine(bus, 1, 1));
                due.fails("second " + bus + " of " + buses, INDEX, () -> grid.addLine(1, bus, 1));
                due.fails("both " + bus + " of " + buses, INDEX, () -> grid.addLine(bus, bus, 1));
            }
        }
    }

    private static void addLineOutOfRange() {
        due.by("Promise 2: Throws IllegalArgumentException if both are the same bus, or strength is out of range");
        GridEstimator grid = new GridEstimator(2);
        due.fails("both are 0", ARGUMENT, () -> grid.addLine(0, 0, 1));
        due.fails("both are 1", ARGUMENT, () -> grid.addLine(1, 1, 2));
        for (int strength : new int[] {LEAST, -2, -1, 0, 3, 4, MOST}) {
            due.fails("strength " + strength, ARGUMENT, () -> grid.addLine(0, 1, strength));
        }
    }

    private static void addLineFull() {
        due.by("Promise 2: Throws IllegalStateException if there are 8");
        GridEstimator grid = Grids.of(5, Grids.EIGHT_LINES.substring(0, 27));
        due.answers("the eighth", 7, () -> grid.addLine(2, 3, 2));
        due.fails("the ninth", STATE, () -> grid.addLine(2, 4, 2));
        due.fails("another ninth", STATE, () -> grid.addLine(4, 3, 1));
        due.fails("a ninth where a line is", STATE, () -> grid.addLine(0, 1, 1));
        grid.setBreaker(0, false);
        due.fails("the ninth with seven closed", STATE, () -> grid.addLine(2, 4, 2));
    }

    private static void addLineJoined() {
        due.by("Promise 2: or a line joins them, whichever is its first one, its breaker being closed or open");
        GridEstimator grid = Grids.of(4, "0-1 3-2");
        for (boolean isClosed : new boolean[] {true, false, true}) {
            grid.setBreaker(0, isClosed);
            grid.setBreaker(1, isClosed);
            due.fails("0-1, closed: " + isClosed, STATE, () -> grid.addLine(0, 1, 1));
            due.fails("1-0, closed: " + isClosed, STATE, () -> grid.addLine(1, 0, 1));
            due.fails("2-3, closed: " + isClosed, STATE, () -> grid.addLine(2, 3, 2));
            due.fails("3-2, closed: " + isClosed, STATE, () -> grid.addLine(3, 2, 2));
        }
        due.answers("over another bus", 2, () -> grid.addLine(1, 2, 1));
        due.answers("buses that are joined over others alone", 3, () -> grid.addLine(0, 3, 1));
    }

    // ---- promise 3

    private static void setBreakerClosesOrOpens() {
        due.by("Promise 3: Closes or opens the breaker of a line.");
        GridEstimator grid = Grids.of(5, Grids.EIGHT_LINES);
        for (int line = 0; line < 8; line++) {
            grid.setBreaker(line, false);
        }
        due.answers("all are open", 5, grid::islands);
        for (int line = 0; line < 8; line++) {
            int number = line;
            grid.setBreaker(line, true);
            due.answers("line " + line + " alone is closed", 4, grid::islands);
            due.answers("its buses", Grids.EIGHT_LINES.charAt(4 * line) - '0',
                    () -> grid.reference(Grids.EIGHT_LINES.charAt(4 * number + 2) - '0'));
            grid.setBreaker(line, false);
            due.answers("and opened again", 5, grid::islands);
        }
    }

    private static void setBreakerReturns() {
        due.by("Promise 3: Returns whether it was closed.");
        GridEstimator grid = Grids.of(3, "0-1 1-2");
        due.answers("closed at first, to be closed", true, () -> grid.setBreaker(0, true));
        due.answers("closed, to be opened", true, () -> grid.setBreaker(0, false));
        due.answers("open, to be opened", false, () -> grid.setBreaker(0, false));
        due.answers("open twice is open", 2, grid::islands);
        due.answers("open, to be closed", false, () -> grid.setBreaker(0, true));
        due.answers("closed, to be closed", true, () -> grid.setBreaker(0, true));
        due.answers("closed twice is closed", 1, grid::islands);
        due.answers("another line", true, () -> grid.setBreaker(1, true));
    }

    private static void setBreakerNoLine() {
        due.by("Promise 3: Throws IndexOutOfBoundsException if there is no such line");
        String[] lines = {"0-1", "0-1 0-2", Grids.EIGHT_LINES};
        int[] counts = {1, 2, 8};
        for (int i = 0; i < lines.length; i++) {
            GridEstimator grid = Grids.of(5, lines[i]);
            int count = counts[i];
            for (int line : new int[] {LEAST, -1, count, count + 1, MOST}) {
                due.fails("line " + line + " of " + count, INDEX, () -> grid.setBreaker(line, false));
                due.fails("line " + line + " of " + count + ", closed", INDEX, () -> grid.setBreaker(line, true));
            }
            due.answers("the last of " + count, true, () -> grid.setBreaker(count - 1, false));
        }
        due.fails("the first of none", INDEX, () -> new GridEstimator(5).setBreaker(0, true));
    }

    // ---- promises 4 and 5

    private static void islands() {
        due.by("Promise 4: Returns the number of islands.");
        for (int buses = 2; buses <= 5; buses++) {
            GridEstimator grid = new GridEstimator(buses);
            due.answers("of single buses", buses, grid::islands);
            for (int bus = buses - 1; bus > 0; bus--) {
                int left = bus;
                grid.addLine(bus, 0, 1);
                due.answers("of a star that grows", left, grid::islands);
            }
            for (int bus = buses - 1; bus > 0; bus--) {
                int line = bus - 1, split = buses - bus + 1;
                grid.setBreaker(line, false);
                due.answers("of a star that is taken apart", split, grid::islands);
            }
        }
        GridEstimator ring = Grids.of(5, "1-2 2-3 3-4 4-1");
        due.answers("of a ring and a single bus", 2, ring::islands);
        ring.setBreaker(1, false);
        due.answers("of a ring without a line", 2, ring::islands);
        ring.setBreaker(3, false);
        due.answers("of a ring without two", 3, ring::islands);
    }

    private static void referenceReturns() {
        due.by("Promise 5: Returns the reference of the island of a bus.");
        GridEstimator grid = new GridEstimator(5);
        for (int bus = 0; bus < 5; bus++) {
            int single = bus;
            due.answers("of a single bus", single, () -> grid.reference(single));
        }
        grid.addLine(4, 3, 1);
        due.answers("the lower one of two", 3, () -> grid.reference(4));
        due.answers("the lower one of two, of itself", 3, () -> grid.reference(3));
        grid.addLine(4, 0, 1);
        due.answers("the lowest, which came last", 0, () -> grid.reference(3));
        grid.setBreaker(1, false);
        due.answers("the lower one again", 3, () -> grid.reference(4));
        due.answers("the lowest is alone", 0, () -> grid.reference(0));
    }

    private static void referenceNoBus() {
        due.by("Promise 5: Throws IndexOutOfBoundsException if there is no such bus");
        noBus((grid, bus) -> grid.reference(bus));
    }

    private interface Numbered {
        Object call(GridEstimator grid, int number);
    }

    /** The buses of grids of all sizes: the first and the last one are there, those beside them are not. */
    private static void noBus(Numbered asked) {
        for (int buses = 2; buses <= 5; buses++) {
            GridEstimator grid = new GridEstimator(buses);
            int last = buses - 1;
            for (int bus : new int[] {LEAST, -2, -1, buses, buses + 1, MOST}) {
                due.fails("bus " + bus + " of " + buses, INDEX, () -> asked.call(grid, bus));
            }
            due.holds("bus 0 of " + buses, answers(() -> asked.call(grid, 0)));
            due.holds("the last bus of " + buses, answers(() -> asked.call(grid, last)));
        }
    }

    /** The meters of a single bus, up to all ten: the first and the last one are there, those beside are not. */
    private static void noMeter(Numbered asked) {
        GridEstimator grid = new GridEstimator(2);
        due.fails("meter 0 of none", INDEX, () -> asked.call(grid, 0));
        for (int meters = 1; meters <= 10; meters++) {
            int last = meters - 1;
            grid.addMeter(INJECTION, 1, 0, 1);
            for (int meter : new int[] {LEAST, -2, -1, meters, meters + 1, MOST}) {
                due.fails("meter " + meter + " of " + meters, INDEX, () -> asked.call(grid, meter));
            }
            due.holds("meter 0 of " + meters, answers(() -> asked.call(grid, 0)));
            due.holds("the last meter of " + meters, answers(() -> asked.call(grid, last)));
        }
    }

    private static boolean answers(Due.Call call) {
        return !Due.outcome(call).startsWith("throws.");
    }

    // ---- promise 6

    private static void addMeterKind() {
        due.by("Promise 6: kind: FLOW or INJECTION");
        GridEstimator grid = Grids.of(3, "0-1 1-2");
        due.fails("one below FLOW", ARGUMENT, () -> grid.addMeter(FLOW - 1, 1, 3, 1));
        due.answers("FLOW", 0, () -> grid.addMeter(FLOW, 1, 3, 1));
        due.answers("INJECTION", 1, () -> grid.addMeter(INJECTION, 1, 3, 1));
        due.fails("one above INJECTION", ARGUMENT, () -> grid.addMeter(INJECTION + 1, 1, 3, 1));
        // b - c = 3 and 2 b - c = 3: b is 0.
        due.answers("the flow of line 1", -3L, () -> grid.angleNumerator(2));
        due.answers("the injection of bus 1", 0L, () -> grid.angleNumerator(1));
    }

    private static void addMeterPlace() {
        due.by("Promise 6: place: a line for FLOW, a bus for INJECTION");
        GridEstimator grid = Grids.of(5, "0-1 0-2 1=2");
        due.answers("the last line", 0, () -> grid.addMeter(FLOW, 2, 10, 1));
        due.answers("the last bus", 1, () -> grid.addMeter(INJECTION, 2, 5, 1));
        // 2 b - 2 c = 10 and 3 c - 2 b = 5: c is 15 and b is 20.
        due.answers("bus 2", 15L, () -> grid.angleNumerator(2));
        due.answers("bus 1", 20L, () -> grid.angleNumerator(1));
        due.answers("line 0", 2, () -> grid.addMeter(FLOW, 0, 1, 1));
        grid.use(2, false);
        due.answers("its residual is 1 + b", 21L, () -> grid.residualNumerator(2));
        due.answers("bus 0", 3, () -> grid.addMeter(INJECTION, 0, 1, 1));
        grid.use(3, false);
        due.answers("its residual is 1 + b + c", 36L, () -> grid.residualNumerator(3));
        due.fails("line 4, though bus 4 is there", INDEX, () -> grid.addMeter(FLOW, 4, 1, 1));
        due.answers("bus 4, though line 4 is not there", 4, () -> grid.addMeter(INJECTION, 4, 1, 1));
    }

    private static void addMeterReading() {
        due.by("Promise 6: reading: -50 to 50");
        GridEstimator grid = Grids.of(2, "0-1");
        int[] readings = {-50, -49, -1, 0, 1, 49, 50};
        for (int meter = 0; meter < readings.length; meter++) {
            int number = meter, reading = readings[meter];
            due.answers("reading " + reading, number, () -> grid.addMeter(meterKind(number), 0, reading, 1));
            due.answers("reading " + reading + " is kept", reading, () -> grid.read(number, reading));
        }
    }

    private static int meterKind(int number) {
        return number % 2 == 0 ? FLOW : INJECTION;
    }

    private static void addMeterAccuracy() {
        due.by("Promise 6: accuracy: 1 or 2");
        GridEstimator grid = new GridEstimator(2);
        due.answers("accuracy 1", 0, () -> grid.addMeter(INJECTION, 0, 9, 1));
        due.answers("accuracy 2", 1, () -> grid.addMeter(INJECTION, 0, 5, 2));
        due.answers("twice 5 is worse than 9", 1, () -> grid.worst(0));
        grid.read(0, 10);
        due.answers("twice 5 is no worse than 10", 0, () -> grid.worst(0));
    }

    private static void addMeterNumber() {
        due.by("Promise 6: Returns its number.");
        GridEstimator grid = new GridEstimator(2);
        due.answers("the first", 0, () -> grid.addMeter(INJECTION, 1, 1, 1));
        due.fails("a refused one", ARGUMENT, () -> grid.addMeter(INJECTION, 1, 51, 1));
        due.answers("no number is lost by it", 1, () -> grid.addMeter(INJECTION, 1, 2, 1));
        grid.use(1, false);
        due.answers("a dropped one keeps its number", 2, () -> grid.addMeter(INJECTION, 1, 3, 1));
        due.answers("and its reading", 2, () -> grid.read(1, 0));
    }

    private static void addMeterOutOfRange() {
        due.by("Promise 6: Throws IllegalArgumentException if kind, reading or accuracy is out of range");
        GridEstimator grid = Grids.of(3, "0-1 1-2 2-0");
        for (int kind : new int[] {LEAST, -2, -1, 2, 3, MOST}) {
            due.fails("kind " + kind, ARGUMENT, () -> grid.addMeter(kind, 0, 0, 1));
        }
        for (int kind = FLOW; kind <= INJECTION; kind++) {
            int given = kind;
            for (int reading : new int[] {LEAST, -52, -51, 51, 52, MOST}) {
                due.fails("reading " + reading, ARGUMENT, () -> grid.addMeter(given, 0, reading, 1));
            }
            for (int accuracy : new int[] {LEAST, -2, -1, 0, 3, 4, MOST}) {
                due.fails("accuracy " + accuracy, ARGUMENT, () -> grid.addMeter(given, 0, 0, accuracy));
            }
        }
        due.fails("reading and line", ARGUMENT, () -> grid.addMeter(FLOW, 3, 51, 1));
        due.fails("accuracy and bus", ARGUMENT, () -> grid.addMeter(INJECTION, -1, 0, 3));
    }

    private static void addMeterNoPlace() {
        due.by("Promise 6: Throws IndexOutOfBoundsException if there is no such line or bus");
        noBus((grid, bus) -> grid.addMeter(INJECTION, bus, 0, 1));
        due.fails("line 0 of none", INDEX, () -> new GridEstimator(5).addMeter(FLOW, 0, 0, 1));
        GridEstimator one = Grids.of(5, "0-1");
        GridEstimator eight = Grids.of(5, Grids.EIGHT_LINES);
        for (int line : new int[] {LEAST, -1, 8, MOST}) {
            due.fails("line " + line + " of 1", INDEX, () -> one.addMeter(FLOW, line, 0, 1));
            due.fails("line " + line + " of 8", INDEX, () -> eight.addMeter(FLOW, line, 0, 1));
        }
        due.fails("line 1 of 1, though bus 1 is there", INDEX, () -> one.addMeter(FLOW, 1, 0, 1));
        due.fails("bus 5, though line 5 is there", INDEX, () -> eight.addMeter(INJECTION, 5, 0, 1));
        due.answers("line 7 of 8", 0, () -> eight.addMeter(FLOW, 7, 0, 1));
        due.answers("line 0 of 1", 0, () -> one.addMeter(FLOW, 0, 0, 1));
        one.setBreaker(0, false);
        due.answers("an open line is there", 1, () -> one.addMeter(FLOW, 0, 0, 1));
    }

    private static void addMeterFull() {
        due.by("Promise 6: Throws IllegalStateException if there are 10");
        GridEstimator grid = Grids.metered(1, 2, 3, 4, 5, 6, 7, 8, 9);
        due.answers("the tenth", 9, () -> grid.addMeter(INJECTION, 1, 0, 1));
        due.fails("an eleventh flow", STATE, () -> grid.addMeter(FLOW, 0, 0, 1));
        due.fails("an eleventh injection", STATE, () -> grid.addMeter(INJECTION, 0, 0, 1));
        grid.use(9, false);
        due.fails("an eleventh with nine in use", STATE, () -> grid.addMeter(INJECTION, 1, 0, 1));
        grid.setBreaker(0, false);
        due.fails("an eleventh with none that counts", STATE, () -> grid.addMeter(INJECTION, 1, 0, 1));
    }

    // ---- promise 7

    private static void readReading() {
        due.by("Promise 7: reading: -50 to 50");
        GridEstimator grid = Grids.of(2, "1-0");
        Grids.flows(grid, 0, 1, 0);
        for (int reading : new int[] {-50, -49, -1, 0, 1, 49, 50}) {
            due.holds("reading " + reading, answers(() -> grid.read(0, reading)));
            due.answers("reading " + reading + " is estimated", reading, () -> grid.angleNumerator(1));
        }
    }

    private static void readReturns() {
        due.by("Promise 7: Returns the reading before.");
        GridEstimator grid = Grids.metered(-50, 50);
        due.answers("the lowest, which it had at first", -50, () -> grid.read(0, 50));
        due.answers("the highest, which it was given", 50, () -> grid.read(0, 0));
        due.answers("0", 0, () -> grid.read(0, 0));
        due.answers("0 once more", 0, () -> grid.read(0, 1));
        due.answers("of another meter", 50, () -> grid.read(1, 2));
        due.fails("a refused one", ARGUMENT, () -> grid.read(0, 51));
        due.answers("is not kept", 1, () -> grid.read(0, 7));
        grid.use(0, false);
        grid.setBreaker(0, false);
        due.answers("of a meter that counts nowhere", 7, () -> grid.read(0, 8));
    }

    private static void readNoMeter() {
        due.by("Promise 7: Throws IndexOutOfBoundsException if there is no such meter");
        noMeter((grid, meter) -> grid.read(meter, 1));
        due.fails("with a wrong reading too", INDEX, () -> Grids.metered(4).read(1, 51));
    }

    private static void readOutOfRange() {
        due.by("Promise 7: Throws IllegalArgumentException if reading is out of range");
        GridEstimator grid = Grids.metered(4);
        for (int reading : new int[] {LEAST, -52, -51, 51, 52, MOST}) {
            due.fails("reading " + reading, ARGUMENT, () -> grid.read(0, reading));
            due.answers("the estimate stays", -4L, () -> grid.angleNumerator(1));
        }
    }

    // ---- promise 8

    private static void useUsesOrDrops() {
        due.by("Promise 8: Uses or drops a meter.");
        GridEstimator grid = Grids.metered(-50, -40, -30, -20, -10, 10, 20, 30, 40, 50);
        for (int meter = 0; meter < 10; meter++) {
            grid.use(meter, false);
        }
        due.answers("all are dropped", 0, () -> grid.rank(0));
        for (int meter = 0; meter < 10; meter++) {
            int number = meter;
            int reading = grid.read(meter, meter);
            grid.read(meter, reading);
            grid.use(meter, true);
            due.answers("meter " + meter + " alone is used", -reading, () -> grid.angleNumerator(1));
            due.answers("and is critical", true, () -> grid.isCritical(number));
            grid.use(meter, false);
            due.answers("and dropped again", NONE, () -> grid.countsIn(number));
        }
    }

    private static void useReturns() {
        due.by("Promise 8: Returns whether it was used.");
        GridEstimator grid = Grids.metered(4, 6);
        due.answers("used at first, to be used", true, () -> grid.use(0, true));
        due.answers("used, to be dropped", true, () -> grid.use(0, false));
        due.answers("dropped, to be dropped", false, () -> grid.use(0, false));
        due.answers("dropped twice is dropped", -6L, () -> grid.angleNumerator(1));
        due.answers("dropped, to be used", false, () -> grid.use(0, true));
        due.answers("used, to be used", true, () -> grid.use(0, true));
        due.answers("used twice weighs once", -5L, () -> grid.angleNumerator(1));
        grid.setBreaker(0, false);
        due.answers("used, though it counts nowhere", true, () -> grid.use(1, true));
    }

    private static void useNoMeter() {
        due.by("Promise 8: Throws IndexOutOfBoundsException if there is no such meter");
        noMeter((grid, meter) -> grid.use(meter, true));
        noMeter((grid, meter) -> grid.use(meter, false));
    }

    // ---- promise 9

    private static void countsIn() {
        due.by("Promise 9: Returns the reference of the island in which a meter counts; NONE if it counts nowhere.");
        GridEstimator grid = Grids.of(4, "3-2");
        Grids.flows(grid, 0, 1, 0);
        Grids.injections(grid, 3, 1, 0);
        Grids.injections(grid, 0, 1, 0);
        due.answers("a flow", 2, () -> grid.countsIn(0));
        due.answers("an injection", 2, () -> grid.countsIn(1));
        due.answers("the injection of single bus 0", 0, () -> grid.countsIn(2));
        grid.addLine(2, 1, 1);
        due.answers("a flow in an island that grew", 1, () -> grid.countsIn(0));
        grid.setBreaker(0, false);
        due.answers("a flow of an open line", NONE, () -> grid.countsIn(0));
        due.answers("an injection at an open line", 3, () -> grid.countsIn(1));
        grid.use(0, false);
        grid.use(2, false);
        due.answers("a flow of an open line, dropped", NONE, () -> grid.countsIn(0));
        due.answers("an injection, dropped", NONE, () -> grid.countsIn(2));
        grid.setBreaker(0, true);
        due.answers("a flow, dropped", NONE, () -> grid.countsIn(0));
        grid.use(0, true);
        due.answers("a flow, used again", 1, () -> grid.countsIn(0));
    }

    private static void countsInNoMeter() {
        due.by("Promise 9: Throws IndexOutOfBoundsException if there is no such meter");
        noMeter((grid, meter) -> grid.countsIn(meter));
    }

    // ---- promises 10 and 11

    private static void rank() {
        due.by("Promise 10: Returns the rank of the rows of the meters that count in the island of a bus.");
        GridEstimator star = Grids.of(5, "0-1 0-2 0-3 0-4 1=2");
        due.answers("without meters", 0, () -> star.rank(4));
        Grids.injections(star, 0, 1, 9, 9);
        due.answers("the same row twice", 1, () -> star.rank(4));
        Grids.flows(star, 0, 1, 9);
        Grids.flows(star, 1, 1, 9);
        due.answers("two more", 3, () -> star.rank(0));
        Grids.flows(star, 4, 1, 9);
        due.answers("a flow between the two", 3, () -> star.rank(0));
        Grids.injections(star, 1, 1, 9);
        due.answers("an injection of flows that are known", 3, () -> star.rank(0));
        Grids.injections(star, 3, 1, 9);
        due.answers("all there may be", 4, () -> star.rank(0));
        Grids.injections(star, 2, 1, 9);
        Grids.injections(star, 4, 1, 9);
        due.answers("no more than that", 4, () -> star.rank(0));
        star.use(6, false);
        star.use(8, false);
        due.answers("without two that were dropped", 3, () -> star.rank(1));
        star.setBreaker(3, false);
        due.answers("all there may be without bus 4", 3, () -> star.rank(3));
        due.answers("of the single bus", 0, () -> star.rank(4));
    }

    private static void rankNoBus() {
        due.by("Promise 10: Throws IndexOutOfBoundsException if there is no such bus");
        noBus((grid, bus) -> grid.rank(bus));
    }

    private static void isObservable() {
        due.by("Promise 11: Tells whether the island of a bus is observable.");
        GridEstimator grid = Grids.of(5, "0-1 2-3");
        due.answers("without meters", false, () -> grid.isObservable(0));
        due.answers("a single bus", true, () -> grid.isObservable(4));
        Grids.flows(grid, 1, 1, 0);
        due.answers("a meter in another island", false, () -> grid.isObservable(1));
        due.answers("the meter's island", true, () -> grid.isObservable(2));
        Grids.injections(grid, 0, 1, 0);
        due.answers("a meter of its reference", true, () -> grid.isObservable(1));
        grid.addLine(3, 0, 1);
        for (int bus = 0; bus < 4; bus++) {
            int asked = bus;
            grid.setBreaker(2, true);
            due.answers("two meters for four buses, " + bus, false, () -> grid.isObservable(asked));
            grid.setBreaker(2, false);
            due.answers("in parts again, " + bus, true, () -> grid.isObservable(asked));
        }
    }

    private static void isObservableNoBus() {
        due.by("Promise 11: Throws IndexOutOfBoundsException if there is no such bus");
        noBus((grid, bus) -> grid.isObservable(bus));
    }

    // ---- promise 12

    private static void isCritical() {
        due.by("Promise 12: Tells whether the island in which a meter counts would not be observable, if the meter "
                + "were dropped");
        GridEstimator grid = Grids.of(3, "0-1 1-2 2-0");
        Grids.flows(grid, 0, 1, 1);
        Grids.flows(grid, 1, 1, 1);
        areCritical(grid, "two of two", true, true);
        Grids.flows(grid, 2, 1, 1);
        areCritical(grid, "a third that stands for each", false, false, false);
        grid.setBreaker(2, false);
        areCritical(grid, "the third is open", true, true, false);
        grid.setBreaker(2, true);
        grid.use(0, false);
        areCritical(grid, "the first is dropped", false, true, true);
        Grids.flows(grid, 1, 2, 50);
        areCritical(grid, "the second has a double", false, false, true, false);
        due.answers("asking drops nothing", 2, () -> grid.rank(0));
        due.answers("and leaves the second in use", true, () -> grid.use(1, true));
        GridEstimator beside = Grids.of(5, "0-1 1-2 3-4");
        Grids.flows(beside, 2, 1, 7);
        areCritical(beside, "beside an island without a meter", true);
        Grids.flows(beside, 0, 1, 7);
        areCritical(beside, "beside an island that is not observable", true, false);
        Grids.flows(beside, 1, 1, 7);
        areCritical(beside, "beside a greater island", true, true, true);
        Grids.flows(beside, 2, 1, 7);
        areCritical(beside, "a double in its own island", false, true, true, false);
    }

    private static void areCritical(GridEstimator grid, String what, boolean... wanted) {
        for (int meter = 0; meter < wanted.length; meter++) {
            int asked = meter;
            due.answers(what + ", meter " + meter, wanted[meter], () -> grid.isCritical(asked));
        }
    }

    private static void isCriticalNot() {
        due.by("Promise 12: false if it counts nowhere, or the island is not observable");
        GridEstimator grid = Grids.of(3, "0-1 1-2");
        Grids.flows(grid, 0, 1, 1);
        areCritical(grid, "the island is not observable", false);
        grid.setBreaker(1, false);
        areCritical(grid, "it is, without bus 2", true);
        grid.use(0, false);
        areCritical(grid, "the island would be observable with it", false);
        grid.use(0, true);
        grid.setBreaker(0, false);
        areCritical(grid, "the line is open", false);
        Grids.injections(grid, 2, 1, 50);
        areCritical(grid, "a single bus needs no meter", false, false);
        grid.use(1, false);
        areCritical(grid, "nor a dropped one", false, false);
    }

    private static void isCriticalNoMeter() {
        due.by("Promise 12: Throws IndexOutOfBoundsException if there is no such meter");
        noMeter((grid, meter) -> grid.isCritical(meter));
    }

    // ---- promises 13 and 14

    private static void angle(String what, GridEstimator grid, int bus, long numerator, long denominator) {
        due.answers(what + ", numerator", numerator, () -> grid.angleNumerator(bus));
        due.answers(what + ", denominator", denominator, () -> grid.angleDenominator(bus));
    }

    private static void angles() {
        due.by("Promise 13: Returns the numerator of the estimated angle of a bus. "
                + "Promise 14: Returns the denominator of the estimated angle of a bus.");
        GridEstimator grid = Grids.of(4, "0=1 2=3");
        angle("a single bus", new GridEstimator(2), 1, 0, 1);
        Grids.flows(grid, 0, 1, 50, 49);
        // -2 b is 50 and 49: b is -99/4.
        angle("the reference", grid, 0, 0, 1);
        angle("below 0", grid, 1, -99, 4);
        Grids.flows(grid, 1, 2, -50);
        angle("above 0", grid, 3, 25, 1);
        angle("the reference of another island", grid, 2, 0, 1);
        grid.read(1, -50);
        angle("0 of readings that are not 0", grid, 1, 0, 1);
        grid.read(1, 46);
        angle("in lowest terms", grid, 1, -24, 1);
    }

    private static void anglesNoBus() {
        due.by("Promises 13 and 14: Throws IndexOutOfBoundsException if there is no such bus");
        noBus((grid, bus) -> grid.angleNumerator(bus));
        noBus((grid, bus) -> grid.angleDenominator(bus));
    }

    private static void anglesNotObservable() {
        due.by("Promises 13 and 14: Throws IllegalStateException if its island is not observable");
        notObservable((grid, bus) -> grid.angleNumerator(bus));
        notObservable((grid, bus) -> grid.angleDenominator(bus));
    }

    /** A call that throws for each bus of an island of rank 1 with three buses, its reference too. */
    private static void notObservable(Numbered asked) {
        GridEstimator grid = Grids.of(4, "3-1 1=2");
        Grids.flows(grid, 0, 2, 0, 50);
        for (int bus = 1; bus <= 3; bus++) {
            int number = bus;
            due.fails("bus " + bus, STATE, () -> asked.call(grid, number));
        }
        due.holds("a single bus beside it", answers(() -> asked.call(grid, 0)));
        grid.addMeter(FLOW, 1, 1, 1);
        for (int bus = 1; bus <= 3; bus++) {
            int number = bus;
            due.holds("bus " + bus + " with one more meter", answers(() -> asked.call(grid, number)));
        }
        grid.use(2, false);
        due.fails("without it", STATE, () -> asked.call(grid, 1));
        grid.setBreaker(1, false);
        due.holds("without bus 2", answers(() -> asked.call(grid, 3)));
        due.holds("bus 2 by itself", answers(() -> asked.call(grid, 2)));
        grid.use(0, false);
        grid.use(1, false);
        due.fails("without a meter", STATE, () -> asked.call(grid, 3));
    }

    // ---- promises 15 and 16

    private static void residual(String what, GridEstimator grid, int meter, long numerator, long denominator) {
        due.answers(what + ", numerator", numerator, () -> grid.residualNumerator(meter));
        due.answers(what + ", denominator", denominator, () -> grid.residualDenominator(meter));
    }

    private static void residuals() {
        due.by("Promise 15: Returns the numerator of the residual of a meter. "
                + "Promise 16: Returns the denominator of the same residual.");
        GridEstimator grid = Grids.metered(50, 49, 49);
        residual("above 0", grid, 0, 2, 3);
        residual("below 0", grid, 1, -1, 3);
        grid.read(0, 46);
        residual("a whole one below 0", grid, 0, -2, 1);
        residual("a whole one above 0", grid, 2, 1, 1);
        grid.read(0, 49);
        residual("0", grid, 2, 0, 1);
        GridEstimator alone = new GridEstimator(2);
        Grids.injections(alone, 0, 2, -50);
        residual("of a single bus, whatever the accuracy", alone, 0, -50, 1);
    }

    private static void residualsOfDropped() {
        due.by("Promises 15 and 16: of one that is dropped, in the island in which it would count if it were used");
        GridEstimator grid = Grids.of(4, "1-0 3=2");
        Grids.flows(grid, 0, 1, 10, 20);
        Grids.flows(grid, 1, 1, -50);
        residual("one that is used", grid, 1, 5, 1);
        grid.use(1, false);
        residual("a flow that is dropped, without any weight", grid, 1, 10, 1);
        residual("the one that is left", grid, 0, 0, 1);
        Grids.injections(grid, 0, 2, 15);
        residual("an injection that is used", grid, 3, 5, 1);
        grid.use(3, false);
        residual("an injection that is dropped", grid, 3, 25, 1);
        Grids.injections(grid, 2, 1, 49);
        grid.use(4, false);
        residual("an injection in the other island", grid, 4, -1, 1);
        grid.setBreaker(1, false);
        residual("an injection of a single bus, dropped", grid, 4, 49, 1);
        residual("an island beside it", grid, 1, 10, 1);
    }

    private static void residualsNoMeter() {
        due.by("Promises 15 and 16: Throws IndexOutOfBoundsException if there is no such meter");
        noMeter((grid, meter) -> grid.residualNumerator(meter));
        noMeter((grid, meter) -> grid.residualDenominator(meter));
    }

    private static void residualsNowhere() {
        due.by("Promises 15 and 16: Throws IllegalStateException if it would count nowhere");
        // The ring is observable without line 2.
        GridEstimator grid = Grids.of(3, "0-1 1-2 2-0");
        for (int line = 0; line < 3; line++) {
            Grids.flows(grid, line, 1, 1);
        }
        residual("of a closed line", grid, 2, 1, 1);
        grid.setBreaker(2, false);
        noResidual("of an open line", grid, 2);
        grid.use(2, false);
        noResidual("of an open line, dropped", grid, 2);
        residual("of a closed line beside it", grid, 1, 0, 1);
        grid.setBreaker(2, true);
        // The other two lines tell -2 for it.
        residual("of a closed line, dropped", grid, 2, 3, 1);
    }

    private static void noResidual(String what, GridEstimator grid, int meter) {
        due.fails(what + ", numerator", STATE, () -> grid.residualNumerator(meter));
        due.fails(what + ", denominator", STATE, () -> grid.residualDenominator(meter));
    }

    private static void residualsNotObservable() {
        due.by("Promises 15 and 16: or the island is not observable");
        GridEstimator grid = Grids.of(4, "0-1 1-2");
        Grids.flows(grid, 0, 1, 1);
        Grids.injections(grid, 2, 1, 5);
        Grids.injections(grid, 3, 1, 6);
        residual("it is", grid, 0, 0, 1);
        grid.use(0, false);
        noResidual("of the one that is missing", grid, 0);
        noResidual("of the one that is left", grid, 1);
        residual("in another island", grid, 2, 6, 1);
        grid.use(1, false);
        noResidual("without any meter", grid, 1);
        grid.setBreaker(1, false);
        residual("of a bus by itself", grid, 1, 5, 1);
        noResidual("of two without a meter", grid, 0);
    }

    // ---- promise 17

    private static void worst() {
        due.by("Promise 17: Returns the worst meter of the island of a bus; NONE if there is none.");
        GridEstimator grid = Grids.of(3, "0-1");
        due.answers("a single bus without meters", NONE, () -> grid.worst(2));
        Grids.injections(grid, 2, 1, 0);
        due.answers("a single bus with a residual of 0", NONE, () -> grid.worst(2));
        grid.read(0, -1);
        due.answers("meter 0", 0, () -> grid.worst(2));
        Grids.flows(grid, 0, 1, 4);
        due.answers("a critical meter has no residual", NONE, () -> grid.worst(0));
        Grids.flows(grid, 0, 1, 5, 5, 5);
        due.answers("the first of the island", 1, () -> grid.worst(0));
        for (int meter = 5; meter < 9; meter++) {
            Grids.flows(grid, 0, 1, 5);
        }
        Grids.flows(grid, 0, 1, -40);
        due.answers("the last meter of ten", 9, () -> grid.worst(1));
        grid.use(9, false);
        due.answers("not if it is dropped", 1, () -> grid.worst(1));
        grid.use(1, false);
        due.answers("none, if those agree that are used", NONE, () -> grid.worst(1));
        due.answers("the other island as before", 0, () -> grid.worst(2));
    }

    private static void worstNoBus() {
        due.by("Promise 17: Throws IndexOutOfBoundsException if there is no such bus");
        noBus((grid, bus) -> grid.worst(bus));
    }

    private static void worstNotObservable() {
        due.by("Promise 17: Throws IllegalStateException if the island is not observable");
        notObservable((grid, bus) -> grid.worst(bus));
    }

    // ---- promise 18

    private static void cleanAboveLimit() {
        due.by("Promise 18: a worst meter whose accuracy times residual, without its sign, is above a limit");
        for (int reading : new int[] {-50, -7, 7, 50}) {
            for (int accuracy = 1; accuracy <= 2; accuracy++) {
                int size = Math.abs(reading) * accuracy;
                GridEstimator grid = new GridEstimator(2);
                Grids.injections(grid, 0, accuracy, reading);
                due.answers("the limit " + size + " is one more", 0, () -> grid.clean(0, size + 1));
                due.answers("the limit " + size + " is reached", 0, () -> grid.clean(0, size));
                due.answers("the meter is left", 0, () -> grid.countsIn(0));
                due.answers("the limit " + size + " is passed", 1, () -> grid.clean(0, size - 1));
                due.answers("the meter is dropped", NONE, () -> grid.countsIn(0));
            }
        }
        // The flow is 46/3: the first two residuals are -46/3, the last is 92/3.
        GridEstimator thirds = Grids.metered(0, 0, 46);
        due.answers("92/3 is not above 31", 0, () -> thirds.clean(0, 31));
        due.answers("92/3 is above 30", 1, () -> thirds.clean(0, 30));
    }

    private static void cleanAsLongAs() {
        due.by("Promise 18: as long as it has a worst meter");
        // The flow is 10, then 5 without the last, then 0.
        GridEstimator anew = Grids.metered(0, 0, 0, 20, 30);
        due.answers("estimated anew after each", 2, () -> anew.clean(0, 8));
        due.answers("the last two are dropped", NONE, () -> Math.max(anew.countsIn(3), anew.countsIn(4)));
        due.answers("no other one is", 0, () -> anew.countsIn(0) + anew.countsIn(1) + anew.countsIn(2));
        GridEstimator once = Grids.metered(0, 0, 0, 20, 30);
        due.answers("15 is not above 15 any more", 1, () -> once.clean(1, 15));
        GridEstimator agree = Grids.metered(5, 5, 5);
        due.answers("none at first", 0, () -> agree.clean(0, 0));
        due.answers("all stay", -5L, () -> agree.angleNumerator(1));
        GridEstimator ties = Grids.metered(-4, 4);
        due.answers("the lowest of two", 1, () -> ties.clean(0, 3));
        due.answers("the lowest is dropped", NONE, () -> ties.countsIn(0));
        GridEstimator beside = Grids.of(4, "0-1 2-3");
        Grids.flows(beside, 0, 1, 0, 50);
        Grids.flows(beside, 1, 1, 0, 50);
        due.answers("the worst of its island", 1, () -> beside.clean(3, 0));
        due.answers("none of another one", 0, () -> beside.countsIn(0) + beside.countsIn(1));
    }

    private static void cleanNotCritical() {
        due.by("Promise 18: and which is not critical");
        GridEstimator grid = Grids.of(3, "0-1 1-2");
        Grids.flows(grid, 0, 2, 50);
        Grids.flows(grid, 1, 2, -50);
        due.answers("critical ones alone", 0, () -> grid.clean(0, 0));
        Grids.flows(grid, 1, 1, 50);
        due.answers("one too many", 1, () -> grid.clean(2, 0));
        due.answers("the island stays observable", true, () -> grid.isObservable(2));
        due.answers("the critical one stays", 0, () -> grid.countsIn(0));
        due.answers("and the one that has become critical", 0, () -> grid.clean(2, 0));
        GridEstimator all = new GridEstimator(2);
        Grids.injections(all, 0, 1, 1, -2, 3, -4, 5, -6, 7, -8, 9, -10);
        due.answers("none is critical at a single bus", 10, () -> all.clean(0, 0));
        GridEstimator joined = Grids.metered(-50, -40, -30, -20, -10, 10, 20, 30, 40, 50);
        due.answers("one is at a line", 9, () -> joined.clean(0, 0));
        due.answers("one is left", 1, () -> joined.rank(0));
    }

    private static void cleanLimit() {
        due.by("Promise 18: limit: 0 to 200");
        GridEstimator small = Grids.metered(0, 1);
        due.answers("1/2 is not above 1", 0, () -> small.clean(0, 1));
        due.answers("1/2 is above 0", 1, () -> small.clean(0, 0));
        due.answers("0 is not above 0", 0, () -> small.clean(0, 0));
        // Three flows of -50 on each of three lines, and 50 for their sum: it measures -50, twice 100 is its size.
        GridEstimator even = Grids.of(4, "0-1 0-2 0-3");
        Grids.injections(even, 0, 2, 50);
        for (int line = 0; line < 3; line++) {
            Grids.flows(even, line, 2, -50, -50, -50);
        }
        due.answers("200 is not above 200", 0, () -> even.clean(0, 200));
        due.answers("200 is above 199", 1, () -> even.clean(0, 199));
        due.answers("what is left agrees", NONE, () -> even.worst(0));
        // Four flows of -50 on one line and five on the other, and 50 for their sum: its size is 6000/29.
        GridEstimator uneven = Grids.of(3, "0-1 0-2");
        Grids.injections(uneven, 0, 2, 50);
        Grids.flows(uneven, 0, 2, -50, -50, -50, -50);
        Grids.flows(uneven, 1, 2, -50, -50, -50, -50, -50);
        due.answers("6000/29 is above 200", 1, () -> uneven.clean(2, 200));
        due.answers("the sum is dropped", NONE, () -> uneven.countsIn(0));
    }

    private static void cleanReturns() {
        due.by("Promise 18: Returns how many are dropped.");
        due.answers("none of none", 0, () -> new GridEstimator(5).clean(4, 0));
        for (int meters = 1; meters <= 10; meters++) {
            int count = meters;
            GridEstimator grid = new GridEstimator(2);
            for (int meter = 0; meter < meters; meter++) {
                Grids.injections(grid, 1, 1 + meter % 2, 50 - 3 * meter);
            }
            due.answers("all of " + meters, count, () -> grid.clean(1, 0));
            due.answers("none of those that are dropped", 0, () -> grid.clean(1, 0));
        }
    }

    private static void cleanNoBus() {
        due.by("Promise 18: Throws IndexOutOfBoundsException if there is no such bus");
        noBus((grid, bus) -> grid.clean(bus, 0));
        noBus((grid, bus) -> grid.clean(bus, 200));
    }

    private static void cleanOutOfRange() {
        due.by("Promise 18: Throws IllegalArgumentException if limit is out of range");
        GridEstimator grid = Grids.metered(-50, 50);
        for (int limit : new int[] {LEAST, -2, -1, 201, 202, MOST}) {
            due.fails("limit " + limit, ARGUMENT, () -> grid.clean(0, limit));
            due.answers("nothing is dropped", 0, () -> grid.countsIn(0) + grid.countsIn(1));
        }
        due.answers("limit 200", 0, () -> grid.clean(0, 200));
        due.answers("limit 0", 1, () -> grid.clean(0, 0));
    }

    private static void cleanNotObservable() {
        due.by("Promise 18: Throws IllegalStateException if the island is not observable");
        notObservable((grid, bus) -> grid.clean(bus, 0));
        notObservable((grid, bus) -> grid.clean(bus, 200));
    }
}
