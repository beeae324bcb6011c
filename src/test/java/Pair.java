/** A grid and its model, which take the same calls and must give the same answers. */
final class Pair {
    private static final int MOST_CALLS = 512;

    private final Due due;
    private final String name;
    private final GridEstimator grid;
    private final ExactModel model;
    private int calls = 0;
    private final StringBuilder told = new StringBuilder();

    Pair(Due due, String name, int buses) {
        this.due = due;
        this.name = name;
        grid = new GridEstimator(buses);
        model = new ExactModel(buses);
        told.append("new GridEstimator(").append(buses).append(")");
    }

    boolean mayCall() {
        return calls < MOST_CALLS && due.isClean();
    }

    void addLine(int first, int second, int strength) {
        same("addLine(" + first + ", " + second + ", " + strength + ")",
                () -> grid.addLine(first, second, strength), () -> model.addLine(first, second, strength));
    }

    void setBreaker(int line, boolean isClosed) {
        same("setBreaker(" + line + ", " + isClosed + ")",
                () -> grid.setBreaker(line, isClosed), () -> model.setBreaker(line, isClosed));
    }

    void addMeter(int kind, int place, int reading, int accuracy) {
        same("addMeter(" + kind + ", " + place + ", " + reading + ", " + accuracy + ")",
                () -> grid.addMeter(kind, place, reading, accuracy),
                () -> model.addMeter(kind, place, reading, accuracy));
    }

    void read(int meter, int reading) {
        same("read(" + meter + ", " + reading + ")",
                () -> grid.read(meter, reading), () -> model.read(meter, reading));
    }

    void use(int meter, boolean isUsed) {
        same("use(" + meter + ", " + isUsed + ")", () -> grid.use(meter, isUsed), () -> model.use(meter, isUsed));
    }

    void clean(int bus, int limit) {
        same("clean(" + bus + ", " + limit + ")", () -> grid.clean(bus, limit), () -> model.clean(bus, limit));
    }

    void islands() {
        same("islands()", grid::islands, model::islands);
    }

    void askBus(int bus) {
        same("reference(" + bus + ")", () -> grid.reference(bus), () -> model.reference(bus));
        same("rank(" + bus + ")", () -> grid.rank(bus), () -> model.rank(bus));
        same("isObservable(" + bus + ")", () -> grid.isObservable(bus), () -> model.isObservable(bus));
        same("angleNumerator(" + bus + ")", () -> grid.angleNumerator(bus), () -> model.angleNumerator(bus));
        same("angleDenominator(" + bus + ")", () -> grid.angleDenominator(bus), () -> model.angleDenominator(bus));
        same("worst(" + bus + ")", () -> grid.worst(bus), () -> model.worst(bus));
    }

    void askMeter(int meter) {
        same("countsIn(" + meter + ")", () -> grid.countsIn(meter), () -> model.countsIn(meter));
        same("isCritical(" + meter + ")", () -> grid.isCritical(meter), () -> model.isCritical(meter));
        same("residualNumerator(" + meter + ")",
                () -> grid.residualNumerator(meter), () -> model.residualNumerator(meter));
        same("residualDenominator(" + meter + ")",
                () -> grid.residualDenominator(meter), () -> model.residualDenominator(meter));
    }

    void askAll() {
        islands();
        for (int bus = 0; bus < 5; bus++) {
            askBus(bus);
        }
        for (int meter = 0; meter < 10; meter++) {
            askMeter(meter);
        }
    }

    private void same(String call, Due.Call ofGrid, Due.Call ofModel) {
        if (!mayCall()) {
            return;
        }
        calls++;
        told.append("; ").append(call);
        String want = Due.outcome(ofModel);
        String got = Due.outcome(ofGrid);
        due.compare(want.equals(got) ? call : name + ": " + told, want, got);
    }
}
