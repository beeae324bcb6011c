/** All that can be asked of a grid, in words; the grid is then as it was before. */
final class Snapshot {
    private static final int LINES = 8, BUSES = 5, METERS = 10;

    private final GridEstimator grid;
    private final StringBuilder told = new StringBuilder();

    private Snapshot(GridEstimator grid) {
        this.grid = grid;
    }

    /** Takes some 150 calls of the 512 that an object has. */
    static String of(GridEstimator grid) {
        Snapshot snapshot = new Snapshot(grid);
        snapshot.tell("islands", grid::islands);
        // One number beyond the highest of each kind shows that nothing came to be there.
        for (int line = 0; line <= LINES; line++) {
            snapshot.tellLine(line);
        }
        for (int bus = 0; bus <= BUSES; bus++) {
            snapshot.tellBus(bus);
        }
        for (int meter = 0; meter <= METERS; meter++) {
            snapshot.tellMeter(meter);
        }
        return snapshot.told.toString();
    }

    private void tellLine(int line) {
        tell("breaker of line " + line, () -> {
            boolean wasClosed = grid.setBreaker(line, true);
            grid.setBreaker(line, wasClosed);
            return wasClosed;
        });
    }

    private void tellBus(int bus) {
        tell("bus " + bus, () -> grid.reference(bus));
        tell("rank", () -> grid.rank(bus));
        tell("observable", () -> grid.isObservable(bus));
        tell("angle", () -> grid.angleNumerator(bus));
        tell("over", () -> grid.angleDenominator(bus));
        tell("worst", () -> grid.worst(bus));
    }

    private void tellMeter(int meter) {
        tell("meter " + meter, () -> grid.countsIn(meter));
        tell("critical", () -> grid.isCritical(meter));
        tell("residual", () -> grid.residualNumerator(meter));
        tell("over", () -> grid.residualDenominator(meter));
        tell("reading", () -> {
            int before = grid.read(meter, 0);
            grid.read(meter, before);
            return before;
        });
        tell("used", () -> {
            boolean wasUsed = grid.use(meter, true);
            grid.use(meter, wasUsed);
            return wasUsed;
        });
    }

    private void tell(String what, Due.Call call) {
        told.append(what).append(' ').append(Due.outcome(call)).append("; ");
    }
}
