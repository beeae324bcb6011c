/** Each promise of the document by hand: ordinary inputs, the edges that it names, and wrong inputs. */
public final class PromisesTest {
    private static final int NONE = GridEstimator.NONE;
    private static final int FLOW = GridEstimator.FLOW;
    private static final int INJECTION = GridEstimator.INJECTION;
    private static final Class<IndexOutOfBoundsException> INDEX = IndexOutOfBoundsException.class;
    private static final Class<IllegalArgumentException> ARGUMENT = IllegalArgumentException.class;
    private static final Class<IllegalStateException> STATE = IllegalStateException.class;
    private static final int[] NO_NUMBER = {-1, Integer.MIN_VALUE, Integer.MAX_VALUE};

    private static final Due due = new Due();

    public static void main(String[] args) {
        constants();
        newObject();
        addLine();
        addLineThrows();
        addLineChangesNothingWhenItThrows();
        setBreaker();
        islands();
        reference();
        addMeter();
        addMeterThrows();
        read();
        use();
        countsIn();
        rank();
        rankOfInjections();
        isObservable();
        isCritical();
        angles();
        anglesThrow();
        accuracyWeighs();
        residuals();
        residualsThrow();
        worst();
        worstThrows();
        clean();
        cleanIsOfOneIsland();
        cleanThrows();
        due.close();
    }

    private static void constants() {
        due.answers("NONE", -1, () -> GridEstimator.NONE);
        due.answers("FLOW", 0, () -> GridEstimator.FLOW);
        due.answers("INJECTION", 1, () -> GridEstimator.INJECTION);
    }

    // ---- promise 1

    private static void newObject() {
        int[] asked = {Integer.MIN_VALUE, -1, 0, 1, 2, 3, 4, 5, 6, Integer.MAX_VALUE};
        int[] buses = {2, 2, 2, 2, 2, 3, 4, 5, 5, 5};
        for (int i = 0; i < asked.length; i++) {
            String name = "promise 1: GridEstimator(" + asked[i] + ")";
            GridEstimator grid = new GridEstimator(asked[i]);
            int last = buses[i] - 1;
            due.answers(name + ".islands()", buses[i], grid::islands);
            due.answers(name + ".reference(last)", last, () -> grid.reference(last));
            due.fails(name + ".reference(last + 1)", INDEX, () -> grid.reference(last + 1));
            due.fails(name + ".setBreaker(0, true)", INDEX, () -> grid.setBreaker(0, true));
            due.fails(name + ".use(0, true)", INDEX, () -> grid.use(0, true));
            due.answers(name + ".isObservable(last)", true, () -> grid.isObservable(last));
            due.answers(name + ".rank(last)", 0, () -> grid.rank(last));
        }
    }

    // ---- promise 2

    private static void addLine() {
        GridEstimator grid = new GridEstimator(5);
        int[] firsts = {0, 2, 0, 3, 4, 1, 2, 4};
        int[] seconds = {1, 1, 2, 0, 0, 3, 3, 1};
        for (int line = 0; line < 8; line++) {
            int first = firsts[line], second = seconds[line], strength = 1 + line % 2;
            due.answers("promise 2: addLine of line " + line, line, () -> grid.addLine(first, second, strength));
        }
        due.answers("promise 2: the last line is closed", true, () -> grid.setBreaker(7, true));
        due.answers("promise 2: the lines join", 1, grid::islands);

        GridEstimator strong = new GridEstimator(2);
        strong.addLine(1, 0, 2);
        strong.addMeter(FLOW, 0, 10, 1);
        due.answers("promise 2: strength and direction of a line", 5L, () -> strong.angleNumerator(1));
        GridEstimator weak = new GridEstimator(2);
        weak.addLine(0, 1, 1);
        weak.addMeter(FLOW, 0, 10, 1);
        due.answers("promise 2: a weak line the other way round", -10L, () -> weak.angleNumerator(1));
    }

    private static void addLineThrows() {
        GridEstimator grid = new GridEstimator(5);
        for (int bus : new int[] {-1, 5, Integer.MIN_VALUE, Integer.MAX_VALUE}) {
            due.fails("promise 2: first " + bus, INDEX, () -> grid.addLine(bus, 0, 1));
            due.fails("promise 2: second " + bus, INDEX, () -> grid.addLine(0, bus, 1));
            due.fails("promise 2: both " + bus + ", index first", INDEX, () -> grid.addLine(bus, bus, 0));
        }
        for (int strength : new int[] {0, 3, -1, -2, Integer.MIN_VALUE, Integer.MAX_VALUE}) {
            due.fails("promise 2: strength " + strength, ARGUMENT, () -> grid.addLine(0, 1, strength));
        }
        due.fails("promise 2: the same bus", ARGUMENT, () -> grid.addLine(3, 3, 1));
        due.answers("promise 2: number after wrong calls", 0, () -> grid.addLine(0, 1, 1));
        due.fails("promise 2: again", STATE, () -> grid.addLine(0, 1, 2));
        due.fails("promise 2: the other way round", STATE, () -> grid.addLine(1, 0, 1));
        grid.setBreaker(0, false);
        due.fails("promise 2: again, open", STATE, () -> grid.addLine(0, 1, 1));
        due.fails("promise 2: the other way round, open", STATE, () -> grid.addLine(1, 0, 1));
        due.fails("promise 2: strength before state", ARGUMENT, () -> grid.addLine(0, 1, 3));
        due.fails("promise 2: index before state", INDEX, () -> grid.addLine(0, 5, 1));

        GridEstimator full = new GridEstimator(5);
        int[] firsts = {0, 0, 0, 0, 1, 1, 1, 2};
        int[] seconds = {1, 2, 3, 4, 2, 3, 4, 3};
        for (int line = 0; line < 8; line++) {
            full.addLine(firsts[line], seconds[line], 1);
        }
        due.fails("promise 2: a ninth line", STATE, () -> full.addLine(2, 4, 1));
        due.fails("promise 2: a ninth line of no bus", INDEX, () -> full.addLine(2, 5, 1));
        due.fails("promise 2: a ninth line of one bus", ARGUMENT, () -> full.addLine(2, 2, 1));
        due.fails("promise 2: a ninth line of no strength", ARGUMENT, () -> full.addLine(2, 4, 0));
        full.setBreaker(0, false);
        due.fails("promise 2: an open breaker makes no room", STATE, () -> full.addLine(2, 4, 1));
        due.fails("promise 2: there is no ninth", INDEX, () -> full.setBreaker(8, true));
    }

    private static void addLineChangesNothingWhenItThrows() {
        GridEstimator grid = new GridEstimator(3);
        grid.addLine(0, 1, 1);
        grid.setBreaker(0, false);
        Due.outcome(() -> grid.addLine(1, 0, 2));
        due.answers("promise 2: the line stays open", false, () -> grid.setBreaker(0, true));
        grid.addMeter(FLOW, 0, 7, 1);
        due.answers("promise 2: the line keeps strength and direction", -7L, () -> grid.angleNumerator(1));
        due.fails("promise 2: no second line", INDEX, () -> grid.setBreaker(1, true));
    }

    // ---- promise 3

    private static void setBreaker() {
        GridEstimator grid = new GridEstimator(3);
        grid.addLine(0, 1, 1);
        grid.addLine(1, 2, 1);
        due.answers("promise 3: closed at first", true, () -> grid.setBreaker(0, false));
        due.answers("promise 3: open", false, () -> grid.setBreaker(0, false));
        due.answers("promise 3: open until closed", false, () -> grid.setBreaker(0, true));
        due.answers("promise 3: closed", true, () -> grid.setBreaker(0, true));
        due.answers("promise 3: the other one", true, () -> grid.setBreaker(1, true));
        for (int line : new int[] {2, -1, 8, Integer.MIN_VALUE, Integer.MAX_VALUE}) {
            due.fails("promise 3: line " + line, INDEX, () -> grid.setBreaker(line, false));
        }
        due.answers("promise 3: nothing changed", 1, grid::islands);
        grid.setBreaker(1, false);
        due.answers("promise 3: opened", 2, grid::islands);
        due.answers("promise 3: split off", 2, () -> grid.reference(2));
        grid.setBreaker(1, true);
        due.answers("promise 3: joined again", 0, () -> grid.reference(2));
        grid.setBreaker(1, false);
        grid.addMeter(INJECTION, 0, 6, 1);
        due.answers("promise 3: an injection of what is closed", -6L, () -> grid.angleNumerator(1));
        grid.addLine(2, 0, 2);
        grid.addMeter(FLOW, 2, 2, 1);
        // The injection is -b - 2 c = 6, and 2 c = 2.
        due.answers("promise 3: an injection over two lines", -8L, () -> grid.angleNumerator(1));
        grid.setBreaker(2, false);
        due.answers("promise 3: an injection over one line again", -6L, () -> grid.angleNumerator(1));
    }

    // ---- promise 4

    private static void islands() {
        GridEstimator grid = new GridEstimator(5);
        due.answers("promise 4: without lines", 5, grid::islands);
        grid.addLine(3, 4, 1);
        due.answers("promise 4: one line", 4, grid::islands);
        grid.addLine(4, 2, 1);
        due.answers("promise 4: two lines", 3, grid::islands);
        grid.addLine(2, 3, 1);
        due.answers("promise 4: a ring joins no more", 3, grid::islands);
        grid.setBreaker(0, false);
        due.answers("promise 4: a ring holds without a line", 3, grid::islands);
        grid.setBreaker(1, false);
        due.answers("promise 4: a ring falls without two", 4, grid::islands);
        grid.addLine(1, 0, 1);
        due.answers("promise 4: two islands of two", 3, grid::islands);
    }

    // ---- promise 5

    private static void reference() {
        GridEstimator chain = new GridEstimator(5);
        chain.addLine(4, 3, 1);
        chain.addLine(3, 2, 1);
        chain.addLine(2, 1, 1);
        chain.addLine(1, 0, 1);
        for (int bus = 0; bus < 5; bus++) {
            int asked = bus;
            due.answers("promise 5: chain, " + bus, 0, () -> chain.reference(asked));
        }
        // The lowest bus at one end, the lines in the order that tells the other end last.
        GridEstimator tangled = new GridEstimator(5);
        tangled.addLine(1, 4, 1);
        tangled.addLine(4, 2, 1);
        tangled.addLine(2, 3, 1);
        tangled.addLine(3, 0, 1);
        due.answers("promise 5: tangled", 0, () -> tangled.reference(1));
        tangled.setBreaker(3, false);
        due.answers("promise 5: the next lowest", 1, () -> tangled.reference(3));
        due.answers("promise 5: alone", 0, () -> tangled.reference(0));
        tangled.setBreaker(0, false);
        due.answers("promise 5: the lowest of three", 2, () -> tangled.reference(4));
        due.fails("promise 5: bus 5", INDEX, () -> tangled.reference(5));
        for (int bus : NO_NUMBER) {
            due.fails("promise 5: bus " + bus, INDEX, () -> tangled.reference(bus));
        }
        GridEstimator small = new GridEstimator(3);
        due.fails("promise 5: bus 3 of 3", INDEX, () -> small.reference(3));
    }

    // ---- promise 6

    private static void addMeter() {
        GridEstimator grid = new GridEstimator(5);
        grid.addLine(0, 1, 1);
        grid.addLine(1, 2, 1);
        grid.setBreaker(1, false);
        due.answers("promise 6: a flow", 0, () -> grid.addMeter(FLOW, 0, -50, 1));
        due.answers("promise 6: the flow of an open line", 1, () -> grid.addMeter(FLOW, 1, 50, 2));
        due.answers("promise 6: an injection", 2, () -> grid.addMeter(INJECTION, 4, 0, 1));
        due.answers("promise 6: the same once more", 3, () -> grid.addMeter(INJECTION, 4, 0, 1));
        due.answers("promise 6: reading of the first", -50, () -> grid.read(0, 0));
        due.answers("promise 6: reading of the second", 50, () -> grid.read(1, 0));
        due.answers("promise 6: used at first", true, () -> grid.use(3, true));
        for (int meter = 4; meter < 10; meter++) {
            int number = meter;
            due.answers("promise 6: meter " + meter, number, () -> grid.addMeter(INJECTION, 0, number, 2));
        }
        due.answers("promise 6: the last is kept", 9, () -> grid.read(9, 1));
    }

    private static void addMeterThrows() {
        GridEstimator grid = new GridEstimator(3);
        grid.addLine(0, 1, 1);
        for (int kind : new int[] {-1, 2, Integer.MIN_VALUE, Integer.MAX_VALUE}) {
            due.fails("promise 6: kind " + kind, ARGUMENT, () -> grid.addMeter(kind, 0, 0, 1));
            due.fails("promise 6: kind before place", ARGUMENT, () -> grid.addMeter(kind, -1, 0, 1));
        }
        for (int reading : new int[] {-51, 51, Integer.MIN_VALUE, Integer.MAX_VALUE}) {
            due.fails("promise 6: reading " + reading, ARGUMENT, () -> grid.addMeter(FLOW, 0, reading, 1));
            due.fails("promise 6: reading before place", ARGUMENT, () -> grid.addMeter(FLOW, 1, reading, 1));
        }
        for (int accuracy : new int[] {0, 3, -1, Integer.MIN_VALUE, Integer.MAX_VALUE}) {
            due.fails("promise 6: accuracy " + accuracy, ARGUMENT, () -> grid.addMeter(INJECTION, 0, 0, accuracy));
            due.fails("promise 6: accuracy before place", ARGUMENT, () -> grid.addMeter(INJECTION, 3, 0, accuracy));
        }
        for (int place : NO_NUMBER) {
            due.fails("promise 6: line " + place, INDEX, () -> grid.addMeter(FLOW, place, 0, 1));
            due.fails("promise 6: bus " + place, INDEX, () -> grid.addMeter(INJECTION, place, 0, 1));
        }
        due.fails("promise 6: a bus that is no line", INDEX, () -> grid.addMeter(FLOW, 1, 0, 1));
        due.fails("promise 6: bus 3 of 3", INDEX, () -> grid.addMeter(INJECTION, 3, 0, 1));
        due.answers("promise 6: number after wrong calls", 0, () -> grid.addMeter(INJECTION, 2, 0, 1));
        for (int meter = 1; meter < 10; meter++) {
            grid.addMeter(FLOW, 0, meter, 1);
        }
        due.fails("promise 6: an eleventh meter", STATE, () -> grid.addMeter(FLOW, 0, 0, 1));
        due.fails("promise 6: kind before state", ARGUMENT, () -> grid.addMeter(2, 0, 0, 1));
        due.fails("promise 6: reading before state", ARGUMENT, () -> grid.addMeter(FLOW, 0, 51, 1));
        due.fails("promise 6: place before state", INDEX, () -> grid.addMeter(FLOW, 1, 0, 1));
        grid.use(0, false);
        due.fails("promise 6: a dropped meter makes no room", STATE, () -> grid.addMeter(FLOW, 0, 0, 1));
        due.fails("promise 6: there is no eleventh", INDEX, () -> grid.countsIn(10));
    }

    // ---- promise 7

    private static void read() {
        GridEstimator grid = new GridEstimator(2);
        grid.addLine(0, 1, 1);
        grid.addMeter(FLOW, 0, 3, 1);
        due.answers("promise 7: the reading before", 3, () -> grid.read(0, -50));
        due.answers("promise 7: the lowest reading", -50, () -> grid.read(0, 50));
        due.answers("promise 7: the highest reading", 50, () -> grid.read(0, 12));
        due.answers("promise 7: the estimate follows", -12L, () -> grid.angleNumerator(1));
        for (int reading : new int[] {-51, 51, Integer.MIN_VALUE, Integer.MAX_VALUE}) {
            due.fails("promise 7: reading " + reading, ARGUMENT, () -> grid.read(0, reading));
            due.fails("promise 7: meter before reading", INDEX, () -> grid.read(1, reading));
        }
        for (int meter : NO_NUMBER) {
            due.fails("promise 7: meter " + meter, INDEX, () -> grid.read(meter, 0));
        }
        due.fails("promise 7: meter 1", INDEX, () -> grid.read(1, 0));
        grid.use(0, false);
        due.answers("promise 7: of a dropped meter", 12, () -> grid.read(0, 13));
        due.answers("promise 7: it stays dropped", false, () -> grid.use(0, true));
        due.answers("promise 7: and keeps its reading", 13, () -> grid.read(0, 0));
    }

    // ---- promise 8

    private static void use() {
        GridEstimator grid = new GridEstimator(2);
        grid.addLine(0, 1, 1);
        grid.addMeter(FLOW, 0, 3, 1);
        grid.addMeter(FLOW, 0, 5, 1);
        due.answers("promise 8: used at first", true, () -> grid.use(0, false));
        due.answers("promise 8: dropped", false, () -> grid.use(0, false));
        due.answers("promise 8: the other one alone", -5L, () -> grid.angleNumerator(1));
        due.answers("promise 8: dropped until used", false, () -> grid.use(0, true));
        due.answers("promise 8: used", true, () -> grid.use(0, true));
        due.answers("promise 8: both", -4L, () -> grid.angleNumerator(1));
        due.fails("promise 8: meter 2", INDEX, () -> grid.use(2, false));
        for (int meter : NO_NUMBER) {
            due.fails("promise 8: meter " + meter, INDEX, () -> grid.use(meter, false));
        }
    }

    // ---- promise 9

    private static void countsIn() {
        GridEstimator grid = new GridEstimator(5);
        grid.addLine(3, 2, 1);
        grid.addMeter(FLOW, 0, 0, 1);
        grid.addMeter(INJECTION, 3, 0, 1);
        grid.addMeter(INJECTION, 4, 0, 1);
        due.answers("promise 9: a flow", 2, () -> grid.countsIn(0));
        due.answers("promise 9: an injection", 2, () -> grid.countsIn(1));
        due.answers("promise 9: an injection of a single bus", 4, () -> grid.countsIn(2));
        grid.setBreaker(0, false);
        due.answers("promise 9: a flow of an open line", NONE, () -> grid.countsIn(0));
        due.answers("promise 9: an injection beside it", 3, () -> grid.countsIn(1));
        grid.setBreaker(0, true);
        grid.use(0, false);
        grid.use(1, false);
        due.answers("promise 9: a dropped flow", NONE, () -> grid.countsIn(0));
        due.answers("promise 9: a dropped injection", NONE, () -> grid.countsIn(1));
        grid.use(1, true);
        due.answers("promise 9: used again", 2, () -> grid.countsIn(1));
        due.fails("promise 9: meter 3", INDEX, () -> grid.countsIn(3));
        for (int meter : NO_NUMBER) {
            due.fails("promise 9: meter " + meter, INDEX, () -> grid.countsIn(meter));
        }
    }

    // ---- promise 10

    private static void rank() {
        GridEstimator grid = new GridEstimator(5);
        grid.addLine(0, 1, 1);
        grid.addLine(1, 2, 2);
        grid.addLine(3, 4, 1);
        due.answers("promise 10: without meters", 0, () -> grid.rank(1));
        grid.addMeter(FLOW, 1, 9, 1);
        due.answers("promise 10: one flow", 1, () -> grid.rank(0));
        grid.addMeter(FLOW, 1, -9, 2);
        due.answers("promise 10: the same flow", 1, () -> grid.rank(0));
        grid.addMeter(INJECTION, 2, 1, 1);
        due.answers("promise 10: the injection at its end", 1, () -> grid.rank(2));
        grid.addMeter(INJECTION, 1, 1, 1);
        due.answers("promise 10: another injection", 2, () -> grid.rank(2));
        grid.addMeter(INJECTION, 0, 1, 1);
        due.answers("promise 10: of the reference too", 2, () -> grid.rank(2));
        due.answers("promise 10: another island", 0, () -> grid.rank(3));
        grid.addMeter(FLOW, 2, 1, 1);
        due.answers("promise 10: a meter of another island", 1, () -> grid.rank(4));
        grid.setBreaker(1, false);
        due.answers("promise 10: an open line counts nowhere", 1, () -> grid.rank(0));
        due.answers("promise 10: an injection without lines", 0, () -> grid.rank(2));
        grid.use(3, false);
        grid.use(4, false);
        due.answers("promise 10: dropped meters", 0, () -> grid.rank(1));
        due.fails("promise 10: bus 5", INDEX, () -> grid.rank(5));
        for (int bus : NO_NUMBER) {
            due.fails("promise 10: bus " + bus, INDEX, () -> grid.rank(bus));
        }
    }

    /** In a ring of four, rows depend on each other that are no multiples of each other. */
    private static void rankOfInjections() {
        GridEstimator grid = new GridEstimator(4);
        grid.addLine(0, 1, 1);
        grid.addLine(1, 2, 1);
        grid.addLine(2, 3, 1);
        grid.addLine(3, 0, 1);
        grid.addMeter(INJECTION, 0, 0, 1);
        grid.addMeter(INJECTION, 1, 0, 1);
        due.answers("promise 10: two injections", 2, () -> grid.rank(3));
        grid.addMeter(INJECTION, 2, 0, 1);
        due.answers("promise 10: three injections", 3, () -> grid.rank(3));
        grid.addMeter(INJECTION, 3, 0, 1);
        due.answers("promise 10: all four injections", 3, () -> grid.rank(3));
        grid.use(1, false);
        grid.use(3, false);
        due.answers("promise 10: opposite injections", 2, () -> grid.rank(3));
        grid.use(2, false);
        grid.addMeter(FLOW, 0, 0, 1);
        grid.addMeter(FLOW, 3, 0, 1);
        due.answers("promise 10: an injection that is two flows", 2, () -> grid.rank(3));
    }

    // ---- promise 11

    private static void isObservable() {
        GridEstimator grid = new GridEstimator(3);
        due.answers("promise 11: a single bus", true, () -> grid.isObservable(2));
        grid.addMeter(INJECTION, 2, 5, 1);
        due.answers("promise 11: a single bus with a meter", true, () -> grid.isObservable(2));
        grid.addLine(0, 1, 1);
        due.answers("promise 11: two buses without a meter", false, () -> grid.isObservable(0));
        grid.addMeter(FLOW, 0, 5, 1);
        due.answers("promise 11: two buses with a flow", true, () -> grid.isObservable(1));
        grid.addLine(1, 2, 1);
        due.answers("promise 11: three buses", true, () -> grid.isObservable(1));
        grid.use(0, false);
        due.answers("promise 11: one meter for two angles", false, () -> grid.isObservable(1));
        grid.addMeter(FLOW, 0, 6, 1);
        due.answers("promise 11: two meters of one flow", false, () -> grid.isObservable(2));
        due.fails("promise 11: bus 3", INDEX, () -> grid.isObservable(3));
        for (int bus : NO_NUMBER) {
            due.fails("promise 11: bus " + bus, INDEX, () -> grid.isObservable(bus));
        }
    }

    // ---- promise 12

    private static void isCritical() {
        GridEstimator grid = new GridEstimator(4);
        grid.addLine(0, 1, 1);
        grid.addLine(1, 2, 1);
        grid.addMeter(FLOW, 0, 1, 1);
        due.answers("promise 12: the island is not observable", false, () -> grid.isCritical(0));
        grid.addMeter(FLOW, 1, 1, 1);
        due.answers("promise 12: each is needed", true, () -> grid.isCritical(0));
        due.answers("promise 12: the other too", true, () -> grid.isCritical(1));
        grid.addMeter(FLOW, 1, 2, 1);
        due.answers("promise 12: the only one of its line", true, () -> grid.isCritical(0));
        due.answers("promise 12: one of two of a line", false, () -> grid.isCritical(1));
        due.answers("promise 12: asking drops nothing", 0, () -> grid.countsIn(0));
        grid.use(1, false);
        due.answers("promise 12: the one that is left", true, () -> grid.isCritical(2));
        due.answers("promise 12: a dropped meter", false, () -> grid.isCritical(1));
        grid.addMeter(INJECTION, 3, 4, 1);
        due.answers("promise 12: of a single bus", false, () -> grid.isCritical(3));
        grid.setBreaker(1, false);
        due.answers("promise 12: of an open line", false, () -> grid.isCritical(2));
        due.fails("promise 12: meter 4", INDEX, () -> grid.isCritical(4));
        for (int meter : NO_NUMBER) {
            due.fails("promise 12: meter " + meter, INDEX, () -> grid.isCritical(meter));
        }
    }

    // ---- promises 13 and 14

    private static void angle(String what, GridEstimator grid, int bus, long numerator, long denominator) {
        due.answers("promise 13: " + what, numerator, () -> grid.angleNumerator(bus));
        due.answers("promise 14: " + what, denominator, () -> grid.angleDenominator(bus));
    }

    private static void angles() {
        GridEstimator grid = new GridEstimator(4);
        angle("a single bus", grid, 3, 0, 1);
        grid.addLine(1, 2, 2);
        grid.addMeter(FLOW, 0, 7, 1);
        angle("the reference", grid, 1, 0, 1);
        angle("a half, with its sign on top", grid, 2, -7, 2);
        grid.read(0, -6);
        angle("in lowest terms", grid, 2, 3, 1);
        grid.read(0, 0);
        angle("nothing", grid, 2, 0, 1);
        grid.addMeter(INJECTION, 2, 5, 1);
        grid.read(0, -4);
        // 2 b = 4 and 2 b = 5: b is 9/4.
        angle("between a flow and an injection", grid, 2, 9, 4);
        grid.addLine(2, 3, 1);
        grid.addMeter(FLOW, 1, 3, 1);
        // The injection is 3 b - c now: 2 b = 4, 3 b - c = 5, b - c = 3 leave b = 5/3 and c = -2/3.
        angle("three buses, the middle one", grid, 2, 5, 3);
        angle("three buses, the last one", grid, 3, -2, 3);
        angle("another island beside it", grid, 0, 0, 1);
    }

    private static void anglesThrow() {
        GridEstimator grid = new GridEstimator(3);
        grid.addLine(0, 1, 1);
        for (int bus : new int[] {-1, 3, Integer.MIN_VALUE, Integer.MAX_VALUE}) {
            due.fails("promise 13: bus " + bus, INDEX, () -> grid.angleNumerator(bus));
            due.fails("promise 14: bus " + bus, INDEX, () -> grid.angleDenominator(bus));
        }
        for (int bus = 0; bus < 2; bus++) {
            int asked = bus;
            due.fails("promise 13: not observable, " + bus, STATE, () -> grid.angleNumerator(asked));
            due.fails("promise 14: not observable, " + bus, STATE, () -> grid.angleDenominator(asked));
        }
        angle("an observable island beside it", grid, 2, 0, 1);
        grid.addMeter(INJECTION, 0, 3, 1);
        angle("made observable", grid, 1, -3, 1);
        grid.use(0, false);
        due.fails("promise 13: its meter dropped", STATE, () -> grid.angleNumerator(1));
        due.fails("promise 14: its meter dropped", STATE, () -> grid.angleDenominator(1));
    }

    private static void accuracyWeighs() {
        GridEstimator grid = new GridEstimator(2);
        grid.addLine(1, 0, 1);
        grid.addMeter(FLOW, 0, 0, 1);
        grid.addMeter(FLOW, 0, 1, 2);
        // The weights are the squares of the accuracies: (1 * 0 + 4 * 1) / 5.
        angle("weights 1 and 4", grid, 1, 4, 5);
        grid.addMeter(FLOW, 0, 1, 1);
        angle("weights 1, 4 and 1", grid, 1, 5, 6);
    }

    // ---- promises 15 and 16

    private static void residual(String what, GridEstimator grid, int meter, long numerator, long denominator) {
        due.answers("promise 15: " + what, numerator, () -> grid.residualNumerator(meter));
        due.answers("promise 16: " + what, denominator, () -> grid.residualDenominator(meter));
    }

    private static void residuals() {
        GridEstimator grid = new GridEstimator(3);
        grid.addLine(0, 1, 1);
        grid.addMeter(FLOW, 0, 4, 1);
        residual("the only meter", grid, 0, 0, 1);
        grid.addMeter(INJECTION, 0, 8, 1);
        residual("the reading is below", grid, 0, -2, 1);
        residual("the reading is above", grid, 1, 2, 1);
        grid.read(1, 7);
        residual("a fraction below 0", grid, 0, -3, 2);
        residual("a fraction above 0", grid, 1, 3, 2);
        grid.addMeter(INJECTION, 1, 2, 2);
        // The angle a of bus 1: -a = 4, -a = 7, and a = 2 four times: a is -1/2.
        residual("the injection at the other end", grid, 2, 5, 2);
        residual("weighted", grid, 0, 7, 2);
        grid.use(2, false);
        residual("of a dropped meter", grid, 2, 15, 2);
        grid.addMeter(INJECTION, 2, -9, 1);
        residual("of a single bus", grid, 3, -9, 1);
        grid.use(3, false);
        residual("of a single bus, dropped", grid, 3, -9, 1);
        grid.addLine(2, 1, 1);
        grid.addMeter(FLOW, 1, 1, 1);
        grid.setBreaker(1, false);
        due.fails("promise 15: an open line", STATE, () -> grid.residualNumerator(4));
        due.fails("promise 16: an open line", STATE, () -> grid.residualDenominator(4));
        grid.use(4, false);
        due.fails("promise 15: an open line, dropped", STATE, () -> grid.residualNumerator(4));
        due.fails("promise 16: an open line, dropped", STATE, () -> grid.residualDenominator(4));
    }

    private static void residualsThrow() {
        GridEstimator grid = new GridEstimator(3);
        grid.addLine(0, 1, 1);
        grid.addLine(1, 2, 1);
        grid.addMeter(FLOW, 0, 4, 1);
        for (int meter : new int[] {-1, 1, 10, Integer.MIN_VALUE, Integer.MAX_VALUE}) {
            due.fails("promise 15: meter " + meter, INDEX, () -> grid.residualNumerator(meter));
            due.fails("promise 16: meter " + meter, INDEX, () -> grid.residualDenominator(meter));
        }
        due.fails("promise 15: not observable", STATE, () -> grid.residualNumerator(0));
        due.fails("promise 16: not observable", STATE, () -> grid.residualDenominator(0));
        grid.setBreaker(1, false);
        residual("observable without a bus", grid, 0, 0, 1);
        grid.use(0, false);
        due.fails("promise 15: not observable without it", STATE, () -> grid.residualNumerator(0));
        due.fails("promise 16: not observable without it", STATE, () -> grid.residualDenominator(0));
    }

    // ---- promise 17

    private static void worst() {
        GridEstimator grid = new GridEstimator(3);
        grid.addLine(0, 1, 1);
        grid.addMeter(FLOW, 0, 4, 1);
        due.answers("promise 17: all residuals are 0", NONE, () -> grid.worst(1));
        grid.addMeter(FLOW, 0, 8, 1);
        due.answers("promise 17: the lowest number of two", 0, () -> grid.worst(0));
        grid.addMeter(FLOW, 0, 8, 1);
        // The angle is -20/3: residuals -8/3, 4/3, 4/3.
        due.answers("promise 17: the greatest without its sign", 0, () -> grid.worst(1));
        grid.read(0, 8);
        grid.read(2, 3);
        due.answers("promise 17: the greatest, the last", 2, () -> grid.worst(1));
        grid.read(2, 13);
        due.answers("promise 17: the greatest above 0", 2, () -> grid.worst(1));
        grid.use(2, false);
        due.answers("promise 17: a dropped one is not the worst", NONE, () -> grid.worst(1));
        due.answers("promise 17: a single bus without meters", NONE, () -> grid.worst(2));
        grid.addMeter(INJECTION, 2, 1, 1);
        due.answers("promise 17: a single bus", 3, () -> grid.worst(2));
        due.answers("promise 17: of one island alone", NONE, () -> grid.worst(0));

        GridEstimator weighed = new GridEstimator(2);
        weighed.addLine(0, 1, 2);
        weighed.addMeter(FLOW, 0, 0, 1);
        weighed.addMeter(FLOW, 0, 0, 1);
        weighed.addMeter(FLOW, 0, 9, 2);
        // The flow is 6: residuals -6, -6 and 3, and the accuracy makes all of them 6.
        due.answers("promise 17: the accuracy makes them even", 0, () -> weighed.worst(0));
        weighed.addMeter(FLOW, 0, 0, 1);
        // The flow is 36/7: residuals -36/7 and 27/7, and the accuracy makes the last 54/7.
        due.answers("promise 17: the accuracy tells", 2, () -> weighed.worst(1));
    }

    private static void worstThrows() {
        GridEstimator grid = new GridEstimator(3);
        grid.addLine(0, 1, 1);
        for (int bus : new int[] {-1, 3, Integer.MIN_VALUE, Integer.MAX_VALUE}) {
            due.fails("promise 17: bus " + bus, INDEX, () -> grid.worst(bus));
        }
        due.fails("promise 17: not observable", STATE, () -> grid.worst(0));
        due.fails("promise 17: not observable, the other bus", STATE, () -> grid.worst(1));
    }

    // ---- promise 18

    private static void clean() {
        GridEstimator grid = new GridEstimator(3);
        grid.addLine(0, 1, 1);
        grid.addMeter(FLOW, 0, 0, 1);
        grid.addMeter(FLOW, 0, 0, 1);
        grid.addMeter(FLOW, 0, 30, 1);
        // The flow is 10: residuals -10, -10, 20.
        due.answers("promise 18: a limit that is just reached", 0, () -> grid.clean(0, 20));
        due.answers("promise 18: nothing is dropped", true, () -> grid.use(2, true));
        due.answers("promise 18: a limit that is passed", 1, () -> grid.clean(1, 19));
        due.answers("promise 18: the worst is dropped", false, () -> grid.use(2, true));
        due.answers("promise 18: the others are not", 0, () -> grid.countsIn(0));
        due.answers("promise 18: the limit 0", 1, () -> grid.clean(0, 0));
        due.answers("promise 18: no worst is left", 0, () -> grid.clean(0, 0));
        due.answers("promise 18: dropped for good", NONE, () -> grid.countsIn(2));

        GridEstimator odd = new GridEstimator(2);
        odd.addLine(0, 1, 2);
        odd.addMeter(FLOW, 0, 1, 1);
        odd.addMeter(FLOW, 0, 2, 1);
        odd.addMeter(FLOW, 0, -50, 2);
        odd.addMeter(FLOW, 0, 50, 2);
        due.answers("promise 18: several, until one is left", 3, () -> odd.clean(1, 0));
        due.answers("promise 18: the one that is left is critical", true, () -> odd.isCritical(3));

        GridEstimator precise = new GridEstimator(2);
        precise.addMeter(INJECTION, 0, 50, 2);
        precise.addMeter(INJECTION, 0, -50, 2);
        precise.addMeter(INJECTION, 0, 49, 2);
        due.answers("promise 18: the highest limit", 0, () -> precise.clean(0, 200));
        due.answers("promise 18: accuracy times residual, reached", 0, () -> precise.clean(0, 100));
        due.answers("promise 18: accuracy times residual, passed", 2, () -> precise.clean(0, 99));
        due.answers("promise 18: the limit holds for the next", 0, () -> precise.clean(0, 98));
        due.answers("promise 18: all meters of a single bus may go", 1, () -> precise.clean(0, 0));

        // The flow is 13/2 and the residuals are -13/2: a limit of 6 is passed by half a unit.
        GridEstimator halves = new GridEstimator(2);
        halves.addLine(0, 1, 1);
        halves.addMeter(FLOW, 0, 0, 1);
        halves.addMeter(FLOW, 0, 13, 1);
        due.answers("promise 18: a fraction below the limit", 0, () -> halves.clean(0, 7));
        due.answers("promise 18: a fraction above the limit", 1, () -> halves.clean(0, 6));
    }

    private static void cleanIsOfOneIsland() {
        GridEstimator grid = new GridEstimator(4);
        grid.addLine(0, 1, 1);
        grid.addLine(3, 2, 1);
        for (int line = 0; line < 2; line++) {
            grid.addMeter(FLOW, line, 50, 1);
            grid.addMeter(FLOW, line, -50, 1);
        }
        due.answers("promise 18: the island of a bus", 1, () -> grid.clean(3, 0));
        due.answers("promise 18: its lowest worst is dropped", NONE, () -> grid.countsIn(2));
        due.answers("promise 18: the other island is as it was", 0, () -> grid.countsIn(0));
        due.answers("promise 18: and has its own", 1, () -> grid.clean(0, 49));
    }

    private static void cleanThrows() {
        GridEstimator grid = new GridEstimator(3);
        grid.addLine(0, 1, 1);
        for (int bus : new int[] {-1, 3, Integer.MIN_VALUE, Integer.MAX_VALUE}) {
            due.fails("promise 18: bus " + bus, INDEX, () -> grid.clean(bus, 0));
            due.fails("promise 18: bus before limit", INDEX, () -> grid.clean(bus, 201));
        }
        for (int limit : new int[] {-1, 201, Integer.MIN_VALUE, Integer.MAX_VALUE}) {
            due.fails("promise 18: limit " + limit, ARGUMENT, () -> grid.clean(2, limit));
            due.fails("promise 18: limit before state", ARGUMENT, () -> grid.clean(0, limit));
        }
        due.fails("promise 18: not observable", STATE, () -> grid.clean(0, 0));
        due.fails("promise 18: not observable, the highest limit", STATE, () -> grid.clean(1, 200));
        due.answers("promise 18: an observable island beside it", 0, () -> grid.clean(2, 0));
    }
}
