import java.util.function.Function;
import java.util.function.Supplier;

/** Each sentence on a boundary that stands in the document ahead of its promises has a test of its own here. */
public final class TermsEdgesTest {
    private static final int NONE = GridEstimator.NONE;
    private static final int FLOW = GridEstimator.FLOW;
    private static final int INJECTION = GridEstimator.INJECTION;
    private static final Class<IndexOutOfBoundsException> INDEX = IndexOutOfBoundsException.class;
    private static final Class<IllegalArgumentException> ARGUMENT = IllegalArgumentException.class;
    private static final Class<IllegalStateException> STATE = IllegalStateException.class;
    private static final int LEAST = Integer.MIN_VALUE, MOST = Integer.MAX_VALUE;

    private static final Due due = new Due();

    public static void main(String[] args) {
        due.run(TermsEdgesTest::lastCall);
        due.run(TermsEdgesTest::busesAreNumbered);
        due.run(TermsEdgesTest::noSuchNumber);
        due.run(TermsEdgesTest::otherArguments);
        due.run(TermsEdgesTest::firstListedOfAddLine);
        due.run(TermsEdgesTest::firstListedOfAddMeter);
        due.run(TermsEdgesTest::firstListedOfTheOthers);
        due.run(TermsEdgesTest::throwingChangesNothing);
        due.run(TermsEdgesTest::linesAreNumbered);
        due.run(TermsEdgesTest::strengths);
        due.run(TermsEdgesTest::oneLineForTwoBuses);
        due.run(TermsEdgesTest::closedAtFirst);
        due.run(TermsEdgesTest::islands);
        due.run(TermsEdgesTest::lowestNumber);
        due.run(TermsEdgesTest::angleOfReference);
        due.run(TermsEdgesTest::closedFlows);
        due.run(TermsEdgesTest::openFlows);
        due.run(TermsEdgesTest::injections);
        due.run(TermsEdgesTest::metersAreNumbered);
        due.run(TermsEdgesTest::kindsOfMeters);
        due.run(TermsEdgesTest::readings);
        due.run(TermsEdgesTest::accuracies);
        due.run(TermsEdgesTest::usedAtFirst);
        due.run(TermsEdgesTest::openLineCountsNowhere);
        due.run(TermsEdgesTest::rows);
        due.run(TermsEdgesTest::observable);
        due.run(TermsEdgesTest::leastSquares);
        due.run(TermsEdgesTest::residuals);
        due.run(TermsEdgesTest::lowestTerms);
        due.run(TermsEdgesTest::worst);
        due.run(TermsEdgesTest::constants);
        due.close();
    }

    // ---- what it is

    private static void lastCall() {
        due.by("An object is used for at most 512 calls after it has been made");
        for (int start = 0; start < 4; start++) {
            Pair pair = new Pair(due, "512 calls", 5);
            for (int line = 0; line < 8; line++) {
                pair.addLine(line % 5, (line % 5 + 1 + line / 5) % 5, 1 + line % 2);
            }
            for (int meter = 0; meter < 10; meter++) {
                pair.addMeter(meter % 2, meter % 5, 50 - 9 * meter, 1 + meter / 5);
            }
            for (int i = start; pair.mayCall(); i++) {
                pair.use(i % 10, i % 7 > 0);
                pair.setBreaker(i % 8, i % 5 > 0);
                pair.read(i % 10, i % 101 - 50);
                pair.clean(i % 5, i % 30);
                pair.askMeter(i % 10);
                pair.askBus(i % 5);
            }
        }
        // The grid has taken 21 calls.
        GridEstimator grid = Grids.full();
        for (int call = 22; call < 512; call++) {
            int reading = call % 101 - 50;
            due.fails("call " + call + ", which throws", INDEX, () -> grid.read(10, reading));
        }
        due.answers("the 512th call", 31, () -> grid.read(8, 0));
    }

    // ---- terms

    private interface Numbered {
        Object call(GridEstimator grid, int number);
    }

    private static final Numbered[] OF_A_BUS = {
        (grid, bus) -> grid.addLine(bus, bus == 1 ? 0 : 1, 1),
        (grid, bus) -> grid.addLine(bus == 1 ? 0 : 1, bus, 1),
        (grid, bus) -> grid.reference(bus),
        (grid, bus) -> grid.addMeter(INJECTION, bus, 0, 1),
        (grid, bus) -> grid.rank(bus),
        (grid, bus) -> grid.isObservable(bus),
        (grid, bus) -> grid.angleNumerator(bus),
        (grid, bus) -> grid.angleDenominator(bus),
        (grid, bus) -> grid.worst(bus),
        (grid, bus) -> grid.clean(bus, 0),
    };
    private static final Numbered[] OF_A_LINE = {
        (grid, line) -> grid.setBreaker(line, true),
        (grid, line) -> grid.addMeter(FLOW, line, 0, 1),
    };
    private static final Numbered[] OF_A_METER = {
        (grid, meter) -> grid.read(meter, 0),
        (grid, meter) -> grid.use(meter, true),
        (grid, meter) -> grid.countsIn(meter),
        (grid, meter) -> grid.isCritical(meter),
        (grid, meter) -> grid.residualNumerator(meter),
        (grid, meter) -> grid.residualDenominator(meter),
    };

    /** All numbers from 0 to the count less 1 are there in all calls, and no others. */
    private static void areThere(String what, Numbered[] calls, int count, Supplier<GridEstimator> make) {
        for (int call = 0; call < calls.length; call++) {
            Numbered asked = calls[call];
            for (int number = 0; number < count; number++) {
                String got = outcome(make.get(), asked, number);
                due.holds(what + " " + number + " of " + count + " in call " + call, !got.startsWith("throws."));
            }
            for (int number : new int[] {-1, count, count + 1, 64, LEAST, MOST}) {
                String got = outcome(make.get(), asked, number);
                due.compare(what + " " + number + " of " + count + " in call " + call, Due.thrown(INDEX), got);
            }
        }
    }

    private static String outcome(GridEstimator grid, Numbered asked, int number) {
        return Due.outcome(() -> asked.call(grid, number));
    }

    private static void busesAreNumbered() {
        due.by("The grid has 2 to 5 buses, numbered from 0.");
        for (int buses = 2; buses <= 5; buses++) {
            int count = buses;
            areThere("bus", OF_A_BUS, count, () -> new GridEstimator(count));
        }
    }

    private static void noSuchNumber() {
        due.by("A method throws IndexOutOfBoundsException if there is no such bus, line or meter");
        for (int count = 0; count <= 8; count++) {
            int lines = count;
            areThere("line", OF_A_LINE, lines, () -> withLines(lines));
        }
        for (int count = 0; count <= 10; count++) {
            int meters = count;
            areThere("meter", OF_A_METER, meters, () -> withMeters(meters));
        }
    }

    private static GridEstimator withLines(int count) {
        return count == 0 ? new GridEstimator(5) : Grids.of(5, Grids.EIGHT_LINES.substring(0, 4 * count - 1));
    }

    private static GridEstimator withMeters(int count) {
        GridEstimator grid = new GridEstimator(2);
        Grids.injections(grid, 1, 1, new int[count]);
        return grid;
    }

    private static void otherArguments() {
        due.by("IllegalArgumentException if another argument is out of range");
        GridEstimator grid = Grids.metered(1);
        due.fails("addLine, strength", ARGUMENT, () -> grid.addLine(0, 1, 3));
        due.fails("addLine, one bus", ARGUMENT, () -> grid.addLine(1, 1, 1));
        due.fails("addMeter, kind", ARGUMENT, () -> grid.addMeter(2, 0, 0, 1));
        due.fails("addMeter, reading", ARGUMENT, () -> grid.addMeter(FLOW, 0, 51, 1));
        due.fails("addMeter, accuracy", ARGUMENT, () -> grid.addMeter(FLOW, 0, 0, 0));
        due.fails("read, reading", ARGUMENT, () -> grid.read(0, -51));
        due.fails("clean, limit", ARGUMENT, () -> grid.clean(0, 201));
    }

    private static String firstOf(boolean isIndex, boolean isArgument, boolean isState) {
        return isIndex ? Due.thrown(INDEX) : isArgument ? Due.thrown(ARGUMENT) : isState ? Due.thrown(STATE) : "none";
    }

    private static void firstListedOfAddLine() {
        due.by("if several apply, the one that it lists first is thrown [addLine]");
        for (int first = -1; first <= 5; first++) {
            for (int second = -1; second <= 5; second++) {
                for (int strength = 0; strength <= 3; strength++) {
                    addLineThrowsFirst(first, second, strength);
                }
            }
        }
    }

    private static void addLineThrowsFirst(int first, int second, int strength) {
        boolean isIndex = first < 0 || first > 4 || second < 0 || second > 4;
        boolean isArgument = first == second || strength < 1 || strength > 2;
        boolean isJoined = Math.min(first, second) == 0 && Math.max(first, second) == 1;
        String call = "addLine(" + first + ", " + second + ", " + strength + ")";

        GridEstimator joined = Grids.of(5, "1-0");
        due.compare(call + " beside 1-0", firstOf(isIndex, isArgument, isJoined),
                kindOf(() -> joined.addLine(first, second, strength)));
        GridEstimator opened = Grids.of(5, "0-1");
        opened.setBreaker(0, false);
        due.compare(call + " beside 0-1, which is open", firstOf(isIndex, isArgument, isJoined),
                kindOf(() -> opened.addLine(first, second, strength)));
        GridEstimator full = Grids.of(5, Grids.EIGHT_LINES);
        due.compare(call + " as a ninth", firstOf(isIndex, isArgument, true),
                kindOf(() -> full.addLine(first, second, strength)));
    }

    /** What a call throws, or "none". */
    private static String kindOf(Due.Call call) {
        String outcome = Due.outcome(call);
        return outcome.startsWith("throws.") ? outcome : "none";
    }

    private static void firstListedOfAddMeter() {
        due.by("if several apply, the one that it lists first is thrown [addMeter]");
        for (int kind = -1; kind <= 2; kind++) {
            for (int place = -1; place <= 4; place++) {
                for (int reading : new int[] {-51, -50, 0, 50, 51}) {
                    for (int accuracy = 0; accuracy <= 3; accuracy++) {
                        addMeterThrowsFirst(kind, place, reading, accuracy);
                    }
                }
            }
        }
    }

    /** This method alone lists IllegalArgumentException ahead of IndexOutOfBoundsException. */
    private static void addMeterThrowsFirst(int kind, int place, int reading, int accuracy) {
        boolean isArgument = kind < 0 || kind > 1 || reading < -50 || reading > 50 || accuracy < 1 || accuracy > 2;
        boolean isIndex = place < 0 || place >= (kind == FLOW ? 2 : 4);
        String call = "addMeter(" + kind + ", " + place + ", " + reading + ", " + accuracy + ")";

        GridEstimator grid = Grids.of(4, "0-1 2-3");
        due.compare(call, firstOf(!isArgument && isIndex, isArgument, false),
                kindOf(() -> grid.addMeter(kind, place, reading, accuracy)));
        GridEstimator full = Grids.of(4, "0-1 2-3");
        Grids.flows(full, 0, 1, new int[10]);
        due.compare(call + " as an eleventh", firstOf(!isArgument && isIndex, isArgument, true),
                kindOf(() -> full.addMeter(kind, place, reading, accuracy)));
    }

    private static void firstListedOfTheOthers() {
        due.by("if several apply, the one that it lists first is thrown [read, clean]");
        for (int reading : new int[] {LEAST, -51, 51, MOST}) {
            GridEstimator grid = Grids.metered(3);
            due.fails("read, meter and reading", INDEX, () -> grid.read(1, reading));
            due.fails("read, meter -1 and reading", INDEX, () -> grid.read(-1, reading));
            due.fails("read of no meter at all", INDEX, () -> new GridEstimator(2).read(0, reading));
        }
        for (int limit : new int[] {LEAST, -1, 201, MOST}) {
            GridEstimator grid = Grids.of(3, "0-1");
            due.fails("clean, bus and limit", INDEX, () -> grid.clean(3, limit));
            due.fails("clean, bus -1 and limit", INDEX, () -> grid.clean(-1, limit));
            due.fails("clean, limit and island", ARGUMENT, () -> grid.clean(1, limit));
            due.fails("clean, the limit alone", ARGUMENT, () -> grid.clean(2, limit));
        }
    }

    private static void throwingChangesNothing() {
        due.by("A call that throws changes nothing.");
        changesNothing("addLine, no bus", INDEX, grid -> grid.addLine(0, 5, 1));
        changesNothing("addLine, no first bus", INDEX, grid -> grid.addLine(-1, 0, 1));
        changesNothing("addLine, one bus", ARGUMENT, grid -> grid.addLine(1, 1, 1));
        changesNothing("addLine, strength", ARGUMENT, grid -> grid.addLine(0, 4, 3));
        changesNothing("addLine, joined", STATE, grid -> grid.addLine(1, 0, 2));
        changesNothing("addLine, joined and open", STATE, grid -> grid.addLine(2, 1, 2));
        changesNothing("setBreaker", INDEX, grid -> grid.setBreaker(8, false));
        changesNothing("setBreaker of -1", INDEX, grid -> grid.setBreaker(-1, false));
        changesNothing("reference", INDEX, grid -> grid.reference(5));
        changesNothing("addMeter, kind", ARGUMENT, grid -> grid.addMeter(2, 0, 1, 1));
        changesNothing("addMeter, reading", ARGUMENT, grid -> grid.addMeter(FLOW, 0, 51, 1));
        changesNothing("addMeter, accuracy", ARGUMENT, grid -> grid.addMeter(FLOW, 0, 1, 3));
        changesNothing("addMeter, line", INDEX, grid -> grid.addMeter(FLOW, 8, 1, 1));
        changesNothing("addMeter, bus", INDEX, grid -> grid.addMeter(INJECTION, 5, 1, 1));
        changesNothing("read, reading", ARGUMENT, grid -> grid.read(0, 51));
        changesNothing("read, low reading", ARGUMENT, grid -> grid.read(1, -51));
        changesNothing("read, meter", INDEX, grid -> grid.read(10, 1));
        changesNothing("use", INDEX, grid -> grid.use(10, false));
        changesNothing("use of -1", INDEX, grid -> grid.use(-1, false));
        changesNothing("countsIn", INDEX, grid -> grid.countsIn(10));
        changesNothing("rank", INDEX, grid -> grid.rank(5));
        changesNothing("isObservable", INDEX, grid -> grid.isObservable(5));
        changesNothing("isCritical", INDEX, grid -> grid.isCritical(10));
        changesNothing("angleNumerator", INDEX, grid -> grid.angleNumerator(5));
        changesNothing("angleDenominator", INDEX, grid -> grid.angleDenominator(5));
        changesNothing("residualNumerator", INDEX, grid -> grid.residualNumerator(10));
        changesNothing("residualDenominator", INDEX, grid -> grid.residualDenominator(10));
        changesNothing("worst", INDEX, grid -> grid.worst(5));
        changesNothing("clean, bus", INDEX, grid -> grid.clean(5, 0));
        changesNothing("clean, limit -1", ARGUMENT, grid -> grid.clean(0, -1));
        changesNothing("clean, limit 201", ARGUMENT, grid -> grid.clean(4, 201));

        changesNothing(Grids::full, "a ninth line", STATE, grid -> grid.addLine(2, 4, 1));
        changesNothing(Grids::full, "an eleventh meter", STATE, grid -> grid.addMeter(FLOW, 0, 1, 1));

        changesNothing(Grids::mixed, "angleNumerator of no estimate", STATE, grid -> grid.angleNumerator(3));
        changesNothing(Grids::mixed, "angleDenominator of no estimate", STATE, grid -> grid.angleDenominator(2));
        changesNothing(Grids::mixed, "residualNumerator of no estimate", STATE, grid -> grid.residualNumerator(0));
        changesNothing(Grids::mixed, "residualDenominator nowhere", STATE, grid -> grid.residualDenominator(1));
        changesNothing(Grids::mixed, "worst of no estimate", STATE, grid -> grid.worst(3));
        changesNothing(Grids::mixed, "clean of no estimate", STATE, grid -> grid.clean(3, 0));
    }

    private static void changesNothing(String what, Class<? extends RuntimeException> want,
            Function<GridEstimator, Object> call) {
        changesNothing(Grids::mixed, what, want, call);
        changesNothing(Grids::full, what, want, call);
    }

    private static void changesNothing(Supplier<GridEstimator> make, String what,
            Class<? extends RuntimeException> want, Function<GridEstimator, Object> call) {
        GridEstimator untouched = make.get();
        GridEstimator grid = make.get();
        due.fails(what, want, () -> call.apply(grid));
        due.compare(what + ", all after it", Snapshot.of(untouched), Snapshot.of(grid));
        due.compare(what + ", the next meter", Due.outcome(() -> untouched.addMeter(INJECTION, 1, 1, 1)),
                Due.outcome(() -> grid.addMeter(INJECTION, 1, 1, 1)));
        due.compare(what + ", the next line", Due.outcome(() -> untouched.addLine(4, 2, 1)),
                Due.outcome(() -> grid.addLine(4, 2, 1)));
    }

    // ---- grid

    private static void linesAreNumbered() {
        due.by("Lines are numbered from 0; there are at most 8.");
        GridEstimator grid = new GridEstimator(5);
        String[] lines = Grids.EIGHT_LINES.split(" ");
        for (int line = 0; line < 8; line++) {
            int first = lines[line].charAt(0) - '0', second = lines[line].charAt(2) - '0';
            due.answers("line " + line, line, () -> grid.addLine(first, second, 1));
        }
        due.fails("the ninth", STATE, () -> grid.addLine(2, 4, 1));
        due.fails("there is no line 8", INDEX, () -> grid.setBreaker(8, true));
        for (int line = 0; line < 8; line++) {
            int number = line;
            due.answers("line " + line + " is there", true, () -> grid.setBreaker(number, false));
        }
        due.fails("the ninth when all are open", STATE, () -> grid.addLine(2, 4, 1));
        due.answers("line 7 is open", false, () -> grid.setBreaker(7, true));
        due.answers("line 7 joins", 4, grid::islands);
        due.answers("line 7 joins 2 and 3", 2, () -> grid.reference(3));
    }

    private static void strengths() {
        due.by("A line joins two buses, its first and its second one, and has a strength, 1 or 2");
        GridEstimator grid = new GridEstimator(3);
        due.fails("strength 0", ARGUMENT, () -> grid.addLine(0, 1, 0));
        due.fails("strength 3", ARGUMENT, () -> grid.addLine(0, 1, 3));
        due.answers("strength 1", 0, () -> grid.addLine(0, 1, 1));
        due.answers("strength 2", 1, () -> grid.addLine(2, 1, 2));
        Grids.flows(grid, 0, 1, 6);
        Grids.flows(grid, 1, 1, 6);
        due.answers("0 - b = 6", -6L, () -> grid.angleNumerator(1));
        due.answers("2 (c - b) = 6", -3L, () -> grid.angleNumerator(2));
    }

    private static void oneLineForTwoBuses() {
        due.by("no two lines join the same buses");
        for (int bus = 0; bus < 5; bus++) {
            for (int other = 0; other < bus; other++) {
                GridEstimator grid = new GridEstimator(5);
                int first = bus, second = other;
                due.answers("a line", 0, () -> grid.addLine(first, second, 1));
                due.fails("again", STATE, () -> grid.addLine(first, second, 1));
                due.fails("the other way round", STATE, () -> grid.addLine(second, first, 2));
                int third = bus + other == 1 ? 2 : bus * other == 0 ? (bus % 4) + 1 : 0;
                due.answers("one end is another one", 1, () -> grid.addLine(first, third, 1));
                due.answers("the other end is another one", 2, () -> grid.addLine(third, second, 1));
            }
        }
    }

    private static void closedAtFirst() {
        due.by("Its breaker is closed at first.");
        GridEstimator grid = new GridEstimator(3);
        grid.addLine(2, 1, 1);
        due.answers("it joins at once", 2, grid::islands);
        due.answers("it is told to be closed", true, () -> grid.setBreaker(0, false));
        grid.addLine(0, 1, 1);
        due.answers("the next one too", true, () -> grid.setBreaker(1, true));
        due.answers("which opens no other one again", false, () -> grid.setBreaker(0, false));
    }

    private static void islands() {
        due.by("The buses that are joined by lines with closed breakers, directly or over other buses, are an island");
        int[] order = {0, 1, 2, 3};
        do {
            int[] chain = {0, 1, 2, 3, 4};
            do {
                chainSplits(chain, order);
            } while (permute(chain));
        } while (permute(order));
    }

    /** A chain of five buses, its lines told in some order, is one island, and two without any of its lines. */
    private static void chainSplits(int[] chain, int[] order) {
        GridEstimator grid = new GridEstimator(5);
        for (int link : order) {
            grid.addLine(chain[link], chain[link + 1], 1);
        }
        due.answers("a chain", 1, grid::islands);
        due.answers("its end", 0, () -> grid.reference(chain[4]));
        for (int line = 0; line < 4; line++) {
            grid.setBreaker(line, false);
            due.answers("a chain without a line", 2, grid::islands);
            int low = lowest(chain, 0, order[line] + 1);
            int high = lowest(chain, order[line] + 1, 5);
            due.answers("its first end then", low, () -> grid.reference(chain[0]));
            due.answers("its last end then", high, () -> grid.reference(chain[4]));
            grid.setBreaker(line, true);
        }
    }

    private static int lowest(int[] chain, int from, int to) {
        int lowest = MOST;
        for (int i = from; i < to; i++) {
            lowest = Math.min(lowest, chain[i]);
        }
        return lowest;
    }

    /** Goes on to the next order of numbers; tells whether there was one. */
    private static boolean permute(int[] numbers) {
        int fall = numbers.length - 2;
        while (fall >= 0 && numbers[fall] > numbers[fall + 1]) {
            fall--;
        }
        if (fall < 0) {
            return false;
        }
        int last = numbers.length - 1;
        while (numbers[last] < numbers[fall]) {
            last--;
        }
        swap(numbers, fall, last);
        for (int low = fall + 1, high = numbers.length - 1; low < high; low++, high--) {
            swap(numbers, low, high);
        }
        return true;
    }

    private static void swap(int[] numbers, int one, int other) {
        int kept = numbers[one];
        numbers[one] = numbers[other];
        numbers[other] = kept;
    }

    private static void lowestNumber() {
        due.by("the reference of an island is its bus with the lowest number");
        GridEstimator grid = Grids.of(5, "4-2 3-1");
        int[] references = {0, 1, 2, 1, 2};
        for (int bus = 0; bus < 5; bus++) {
            int asked = bus;
            due.answers("of bus " + bus, references[bus], () -> grid.reference(asked));
        }
        grid.addLine(4, 3, 1);
        due.answers("of two islands made one", 1, () -> grid.reference(2));
    }

    private static void angleOfReference() {
        due.by("Each bus has an angle; that of the reference of an island is 0.");
        GridEstimator grid = Grids.of(5, "4-2 3-1");
        Grids.flows(grid, 0, 1, 50, 31);
        Grids.injections(grid, 2, 2, -50, 49);
        Grids.flows(grid, 1, 2, -50);
        for (int bus = 0; bus < 3; bus++) {
            int reference = bus;
            due.answers("of reference " + bus, 0L, () -> grid.angleNumerator(reference));
            due.answers("of reference " + bus + ", over", 1L, () -> grid.angleDenominator(reference));
        }
        due.answers("of another bus", -50L, () -> grid.angleNumerator(3));
        grid.addLine(0, 3, 1);
        Grids.flows(grid, 2, 1, 5);
        due.answers("of one that is no reference any more", 45L, () -> grid.angleNumerator(1));
    }

    private static void closedFlows() {
        due.by("The flow of a line with a closed breaker is its strength times the angle of its first bus less that of "
                + "its second one");
        String[] lines = {"0-1", "1-0", "0=1", "1=0"};
        int[] angles = {-12, 12, -6, 6};
        for (int i = 0; i < lines.length; i++) {
            int angle = angles[i];
            GridEstimator grid = Grids.of(2, lines[i]);
            Grids.flows(grid, 0, 1, 12);
            due.answers("a flow of 12 over " + lines[i], angle, () -> grid.angleNumerator(1));
        }
        // Neither of its buses is the reference.
        GridEstimator inner = Grids.of(3, "1-0 2=1");
        Grids.flows(inner, 0, 1, 5);
        Grids.flows(inner, 1, 1, 12);
        due.answers("b = 5 and 2 (c - b) = 12", 11L, () -> inner.angleNumerator(2));
    }

    private static void openFlows() {
        due.by("the flow of a line with an open breaker is 0");
        // The ring stays one island without its last line.
        GridEstimator grid = Grids.of(3, "0-1 1-2 2=0");
        grid.setBreaker(2, false);
        Grids.injections(grid, 0, 1, 4);
        Grids.injections(grid, 2, 1, 3);
        due.answers("the injection of 0 is -b = 4", -4L, () -> grid.angleNumerator(1));
        due.answers("the injection of 2 is c - b = 3", -1L, () -> grid.angleNumerator(2));
        grid.setBreaker(2, true);
        // -b - 2 c = 4 and 3 c - b = 3: c is -1/5 and b is -18/5.
        due.answers("of a closed one it is not", -18L, () -> grid.angleNumerator(1));
        due.answers("of a closed one it is not, over", 5L, () -> grid.angleDenominator(1));
        due.answers("of a closed one it is not, at its end", -1L, () -> grid.angleNumerator(2));
    }

    private static void injections() {
        due.by("The injection of a bus is the sum of the flows of all lines of which it is the first bus, "
                + "less the sum of those of which it is the second one.");
        GridEstimator none = new GridEstimator(2);
        Grids.injections(none, 1, 1, 50);
        due.answers("without a line it is 0", 50L, () -> none.residualNumerator(0));
        GridEstimator opened = Grids.of(2, "0=1");
        opened.setBreaker(0, false);
        Grids.injections(opened, 1, 1, -50);
        due.answers("with open lines it is 0", -50L, () -> opened.residualNumerator(0));
        // Bus 0 is the first one of two lines and the second one of two: -a - 2 b - (c + 2 d).
        GridEstimator star = Grids.of(5, "0-1 0=2 3-0 4=0");
        Grids.flows(star, 0, 1, 1);
        Grids.flows(star, 1, 1, 2);
        Grids.flows(star, 2, 1, 10);
        Grids.flows(star, 3, 1, 20);
        Grids.injections(star, 0, 1, 7);
        star.use(4, false);
        due.answers("with lines of all kinds", 34L, () -> star.residualNumerator(4));
        due.answers("with lines of all kinds, over", 1L, () -> star.residualDenominator(4));
    }

    // ---- meters

    private static void metersAreNumbered() {
        due.by("Meters are numbered from 0; there are at most 10.");
        GridEstimator grid = Grids.of(2, "0-1");
        for (int meter = 0; meter < 10; meter++) {
            int number = meter;
            due.answers("meter " + meter, number, () -> grid.addMeter(number % 2, 0, number, 1));
        }
        due.fails("the eleventh flow", STATE, () -> grid.addMeter(FLOW, 0, 0, 1));
        due.fails("the eleventh injection", STATE, () -> grid.addMeter(INJECTION, 0, 0, 1));
        for (int meter = 0; meter < 10; meter++) {
            int number = meter;
            due.answers("meter " + meter + " is there", number, () -> grid.read(number, 0));
            due.answers("meter " + meter + " may be dropped", true, () -> grid.use(number, false));
        }
        due.fails("there is no meter 10", INDEX, () -> grid.read(10, 0));
        due.fails("the eleventh when all are dropped", STATE, () -> grid.addMeter(FLOW, 0, 0, 1));
    }

    private static void kindsOfMeters() {
        due.by("A meter is of the flow of a line, or of the injection of a bus");
        GridEstimator grid = Grids.of(3, "1-0 1-2");
        due.fails("kind -1", ARGUMENT, () -> grid.addMeter(-1, 0, 0, 1));
        due.fails("kind 2", ARGUMENT, () -> grid.addMeter(2, 0, 0, 1));
        due.fails("a flow of bus 2", INDEX, () -> grid.addMeter(FLOW, 2, 0, 1));
        due.answers("an injection of bus 2", 0, () -> grid.addMeter(INJECTION, 2, 4, 1));
        due.answers("a flow of line 0", 1, () -> grid.addMeter(FLOW, 0, 3, 1));
        due.answers("the flow is b", 3L, () -> grid.angleNumerator(1));
        due.answers("the injection is c - b", 7L, () -> grid.angleNumerator(2));
    }

    private static void readings() {
        due.by("it has a reading, -50 to 50");
        GridEstimator grid = Grids.of(2, "1-0");
        due.fails("-51", ARGUMENT, () -> grid.addMeter(FLOW, 0, -51, 1));
        due.fails("51", ARGUMENT, () -> grid.addMeter(FLOW, 0, 51, 1));
        due.answers("-50", 0, () -> grid.addMeter(FLOW, 0, -50, 1));
        due.answers("-50 is estimated", -50L, () -> grid.angleNumerator(1));
        due.answers("50", 1, () -> grid.addMeter(FLOW, 0, 50, 1));
        due.answers("-50 and 50 are estimated", 0L, () -> grid.angleNumerator(1));
        due.fails("-51 is not read", ARGUMENT, () -> grid.read(0, -51));
        due.fails("51 is not read", ARGUMENT, () -> grid.read(0, 51));
        due.answers("-50 is kept", -50, () -> grid.read(0, 50));
        due.answers("50 is kept", 50, () -> grid.read(0, -50));
    }

    private static void accuracies() {
        due.by("and an accuracy, 1 or 2");
        GridEstimator grid = Grids.of(2, "1-0");
        due.fails("0", ARGUMENT, () -> grid.addMeter(FLOW, 0, 0, 0));
        due.fails("3", ARGUMENT, () -> grid.addMeter(FLOW, 0, 0, 3));
        due.fails("-1", ARGUMENT, () -> grid.addMeter(FLOW, 0, 0, -1));
        due.answers("1", 0, () -> grid.addMeter(FLOW, 0, 0, 1));
        due.answers("2", 1, () -> grid.addMeter(FLOW, 0, 5, 2));
        due.answers("2 weighs four times as much", 4L, () -> grid.angleNumerator(1));
        due.answers("2 weighs four times as much, over", 1L, () -> grid.angleDenominator(1));
    }

    private static void usedAtFirst() {
        due.by("and is used or dropped; at first it is used");
        GridEstimator grid = Grids.metered(5);
        due.answers("it counts at once", 0, () -> grid.countsIn(0));
        due.answers("it is told to be used", true, () -> grid.use(0, false));
        grid.addMeter(FLOW, 0, 6, 1);
        due.answers("the next one too", true, () -> grid.use(1, true));
        due.answers("and the first one stays dropped", false, () -> grid.use(0, false));
    }

    private static void openLineCountsNowhere() {
        due.by("A meter of the flow of a line with an open breaker counts nowhere; any other one that is used "
                + "counts in the island of its bus, or of the buses of its line.");
        GridEstimator grid = Grids.of(5, "4-2 3-2 4-3");
        for (int place = 0; place < 5; place++) {
            Grids.injections(grid, place, 1, 0);
        }
        for (int line = 0; line < 3; line++) {
            Grids.flows(grid, line, 1, 0);
        }
        // Line 2 is open, but both of its ends are in one island.
        grid.setBreaker(2, false);
        countIn(grid, "a ring without a line", 0, 1, 2, 2, 2, 2, 2, NONE);
        grid.setBreaker(0, false);
        countIn(grid, "a bus by itself", 0, 1, 2, 2, 4, NONE, 2, NONE);
        grid.setBreaker(2, true);
        countIn(grid, "a ring without another line", 0, 1, 2, 2, 2, NONE, 2, 2);
        grid.use(6, false);
        grid.use(5, false);
        grid.use(0, false);
        countIn(grid, "dropped ones", NONE, 1, 2, 2, 2, NONE, NONE, 2);
        grid.use(5, true);
        countIn(grid, "used again, but open", NONE, 1, 2, 2, 2, NONE, NONE, 2);
        due.answers("it adds nothing to the rank", 2, () -> grid.rank(2));
        grid.setBreaker(0, true);
        countIn(grid, "closed again", NONE, 1, 2, 2, 2, 2, NONE, 2);
    }

    private static void countIn(GridEstimator grid, String what, int... islands) {
        for (int meter = 0; meter < islands.length; meter++) {
            int asked = meter;
            due.answers(what + ", meter " + meter, islands[meter], () -> grid.countsIn(asked));
        }
    }

    private static void rows() {
        due.by("The row of a meter in an island tells, for each bus of the island but the reference, by how much what "
                + "it measures grows when the angle of this bus grows by 1.");
        GridEstimator pair = Grids.of(2, "0-1");
        Grids.injections(pair, 0, 1, 5);
        due.answers("the reference has a row of the other bus", 1, () -> pair.rank(0));
        Grids.injections(pair, 1, 1, 5);
        due.answers("both ends have the same row", 1, () -> pair.rank(1));
        GridEstimator alone = new GridEstimator(2);
        Grids.injections(alone, 0, 1, 5, -5);
        due.answers("the row of a single bus is empty", 0, () -> alone.rank(0));
        GridEstimator opened = Grids.of(3, "0-1 1-2 2-0");
        Grids.injections(opened, 2, 1, 5);
        Grids.injections(opened, 1, 1, 5);
        due.answers("2 c - b and 2 b - c", 2, () -> opened.rank(0));
        opened.setBreaker(2, false);
        opened.setBreaker(1, false);
        due.answers("no bus of another island stands in it", 0, () -> opened.rank(2));
        due.answers("nor the single bus in the other ones", 1, () -> opened.rank(0));
    }

    // ---- estimates

    private static void observable() {
        due.by("An island is observable, if the rank of the rows of the meters that count in it is the number of its "
                + "buses less 1; an island of a single bus is observable.");
        GridEstimator chain = Grids.of(5, "0-1 1-2 2-3 3-4");
        for (int line = 0; line < 3; line++) {
            Grids.flows(chain, line, 1, 1, 2);
            due.answers("rank " + (line + 1) + " of 4", false, () -> chain.isObservable(4));
        }
        Grids.injections(chain, 1, 1, 0, 0, 0);
        due.answers("nine meters of rank 3", false, () -> chain.isObservable(0));
        Grids.flows(chain, 3, 1, 1);
        due.answers("rank 4 of 4", true, () -> chain.isObservable(0));
        chain.use(9, false);
        due.answers("rank 3 again", false, () -> chain.isObservable(0));
        chain.setBreaker(3, false);
        due.answers("rank 3 of 3", true, () -> chain.isObservable(0));
        due.answers("a single bus without a meter", true, () -> chain.isObservable(4));
        GridEstimator alone = new GridEstimator(2);
        Grids.injections(alone, 1, 1, 50);
        due.answers("a single bus with a meter", true, () -> alone.isObservable(1));
        alone.use(0, false);
        due.answers("a single bus with a dropped meter", true, () -> alone.isObservable(1));
    }

    private static void leastSquares() {
        due.by("The estimate of the angles of an observable island is the one for which the sum, over all meters that "
                + "count in it, of the accuracy times the accuracy times the square of the residual is least");
        GridEstimator grid = Grids.of(3, "1-0 1-2 2-0");
        grid.setBreaker(2, false);
        Grids.flows(grid, 0, 2, 3);
        Grids.flows(grid, 0, 1, 8);
        due.fails("no estimate without a meter of bus 2", STATE, () -> grid.angleNumerator(1));
        Grids.flows(grid, 1, 1, 0);
        due.answers("4 times 3 and once 8", 4L, () -> grid.angleNumerator(1));
        Grids.flows(grid, 0, 2, -50);
        grid.use(3, false);
        due.answers("a dropped meter has no weight", 4L, () -> grid.angleNumerator(1));
        Grids.flows(grid, 2, 2, 50);
        due.answers("nor has one of an open line", 4L, () -> grid.angleNumerator(2));
        grid.setBreaker(2, true);
        // b = 3, b = 3, b = 3, b = 3, b = 8, b - c = 0 and four times c = 50: 6 b - c = 20 and 5 c - b = 200.
        due.answers("but one of a closed line", 300L, () -> grid.angleNumerator(1));
        due.answers("but one of a closed line, over", 29L, () -> grid.angleDenominator(1));
    }

    private static void residuals() {
        due.by("the residual of a meter is its reading less what it measures with these angles");
        GridEstimator grid = Grids.metered(-50, 50);
        due.answers("of the reading below", -50L, () -> grid.residualNumerator(0));
        due.answers("of the reading above", 50L, () -> grid.residualNumerator(1));
        grid.read(0, 50);
        due.answers("of equal readings", 0L, () -> grid.residualNumerator(0));
        due.answers("of equal readings, over", 1L, () -> grid.residualDenominator(0));
        grid.use(0, false);
        grid.read(0, -50);
        due.answers("the greatest of a dropped flow", -100L, () -> grid.residualNumerator(0));
    }

    private static void lowestTerms() {
        due.by("All fractions are told in lowest terms with a denominator above 0.");
        GridEstimator grid = Grids.of(2, "0=1");
        Grids.flows(grid, 0, 1, 0);
        for (int reading = -50; reading <= 50; reading++) {
            int flow = reading;
            grid.read(0, reading);
            boolean isEven = reading % 2 == 0;
            due.answers("-b of 2 b = " + reading, isEven ? -flow / 2 : -flow, () -> grid.angleNumerator(1));
            due.answers("-b of 2 b = " + reading + ", over", isEven ? 1 : 2, () -> grid.angleDenominator(1));
        }
        GridEstimator two = Grids.metered(0, 0);
        for (int reading = -50; reading <= 50; reading++) {
            int flow = reading;
            two.read(1, reading);
            boolean isEven = reading % 2 == 0;
            due.answers("half of " + reading, isEven ? flow / 2 : flow, () -> two.residualNumerator(1));
            due.answers("half of " + reading + ", over", isEven ? 1 : 2, () -> two.residualDenominator(1));
        }
    }

    private static void worst() {
        due.by("The worst meter of an observable island is the one that counts in it for which the accuracy times the "
                + "residual, without its sign, is greatest, of several the one with the lowest number; there is none, "
                + "if all residuals are 0.");
        GridEstimator grid = Grids.metered(7, 7, 7);
        due.answers("all residuals are 0", NONE, () -> grid.worst(0));
        due.answers("there is no meter", NONE, () -> new GridEstimator(2).worst(0));
        grid.read(2, -8);
        // The flow is 2: residuals 5, 5 and -10.
        due.answers("the greatest, below 0", 2, () -> grid.worst(0));
        grid.use(1, false);
        // The flow is -1/2: residuals 15/2 and -15/2.
        due.answers("the lowest of two, above 0", 0, () -> grid.worst(1));
        grid.read(0, -8);
        grid.read(2, 7);
        due.answers("the lowest of two, below 0", 0, () -> grid.worst(1));
        grid.use(0, false);
        due.answers("the only one that is used", NONE, () -> grid.worst(0));
        grid.use(1, true);
        grid.addMeter(FLOW, 0, 8, 2);
        // The flow is 46/6: residuals -2/3, -2/3 and 1/3, and the accuracy makes all of them 2/3.
        due.answers("the lowest of three that the accuracy makes even", 1, () -> grid.worst(0));
        grid.use(0, true);
        grid.read(0, 7);
        // The flow is 53/7: residuals -4/7 three times and 3/7, which the accuracy makes 6/7.
        due.answers("the one that the accuracy makes greatest", 3, () -> grid.worst(0));
    }

    private static void constants() {
        due.by("NONE = -1: There is none. FLOW = 0, INJECTION = 1: Kinds of meters.");
        due.answers("NONE", -1, () -> GridEstimator.NONE);
        due.answers("FLOW", 0, () -> GridEstimator.FLOW);
        due.answers("INJECTION", 1, () -> GridEstimator.INJECTION);
    }
}
