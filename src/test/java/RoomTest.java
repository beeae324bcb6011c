import java.lang.management.ManagementFactory;

/** All calls of a run share one room: what an object needs is made with it, and its calls make nothing. */
public final class RoomTest {
    private static final int MOST_CALLS = 512;
    private static final long MOST_BYTES = 4096;

    private static final Due due = new Due();
    private static long sum = 0;

    public static void main(String[] args) {
        var thread = (com.sun.management.ThreadMXBean) ManagementFactory.getThreadMXBean();
        // The first runs load what the machine itself needs.
        long least = Long.MAX_VALUE;
        for (int run = 0; run < 20; run++) {
            GridEstimator grid = wheel();
            long before = thread.getCurrentThreadAllocatedBytes();
            ask(grid);
            least = Math.min(least, thread.getCurrentThreadAllocatedBytes() - before);
        }
        due.holds("calls that throw nothing make " + least + " bytes", least <= MOST_BYTES);
        due.holds("calls answer", sum != 0);
        due.close();
    }

    private static GridEstimator wheel() {
        GridEstimator grid = new GridEstimator(5);
        for (int bus = 1; bus < 5; bus++) {
            grid.addLine(0, bus, 2);
            grid.addLine(bus, bus % 4 + 1, 1);
        }
        for (int meter = 0; meter < 10; meter++) {
            grid.addMeter(GridEstimator.INJECTION, meter % 5, 50 - 9 * meter, 1 + meter % 2);
        }
        return grid;
    }

    private static void ask(GridEstimator grid) {
        for (int call = 18; call + 14 <= MOST_CALLS; call += 14) {
            int bus = call % 5, meter = call % 10;
            grid.use(meter, true);
            grid.read(meter, call % 50);
            sum += grid.clean(bus, call % 3) + grid.worst(bus) + grid.rank(bus) + grid.countsIn(meter);
            sum += grid.angleNumerator(bus) + grid.angleDenominator(bus);
            sum += grid.residualNumerator(meter) + grid.residualDenominator(meter);
            sum += grid.islands() + grid.reference(bus);
            sum += grid.isCritical(meter) || grid.setBreaker(0, true) ? 1 : 2;
        }
    }
}
