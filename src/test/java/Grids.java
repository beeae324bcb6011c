/** Grids that tests begin with. */
final class Grids {
    static final String EIGHT_LINES = "0-1 0-2 0-3 0-4 1-2 1-3 1-4 2-3";

    private Grids() {
    }

    /** Takes lines in words: "0-1" is one of strength 1, from bus 0 to bus 1, and "0=1" one of strength 2. */
    static GridEstimator of(int buses, String lines) {
        GridEstimator grid = new GridEstimator(buses);
        for (String line : lines.split(" ")) {
            int strength = line.charAt(1) == '=' ? 2 : 1;
            grid.addLine(line.charAt(0) - '0', line.charAt(2) - '0', strength);
        }
        return grid;
    }

    /** Two buses and a line of strength 1 from bus 0 to bus 1, its flow metered once for each reading. */
    static GridEstimator metered(int... readings) {
        GridEstimator grid = of(2, "0-1");
        flows(grid, 0, 1, readings);
        return grid;
    }

    static void flows(GridEstimator grid, int line, int accuracy, int... readings) {
        for (int reading : readings) {
            grid.addMeter(GridEstimator.FLOW, line, reading, accuracy);
        }
    }

    static void injections(GridEstimator grid, int bus, int accuracy, int... readings) {
        for (int reading : readings) {
            grid.addMeter(GridEstimator.INJECTION, bus, reading, accuracy);
        }
    }

    /** Eight lines, one of them open, and ten meters, two of them dropped; all buses are one observable island. */
    static GridEstimator full() {
        GridEstimator grid = of(5, EIGHT_LINES);
        grid.setBreaker(7, false);
        for (int line = 0; line < 8; line++) {
            flows(grid, line, 1 + line % 2, 5 * line - 17);
        }
        injections(grid, 3, 2, 31);
        injections(grid, 4, 1, -50);
        grid.use(2, false);
        grid.use(9, false);
        return grid;
    }

    /**
     * An observable island of two buses, one of two that is not observable, and a single bus with a meter; line 0 is
     * open, meter 0 is dropped, and meter 1 is of the open line.
     */
    static GridEstimator mixed() {
        GridEstimator grid = of(5, "1-2 0-1 3=2");
        grid.setBreaker(0, false);
        flows(grid, 2, 2, 11);
        flows(grid, 0, 2, 9);
        flows(grid, 1, 1, 7, -8);
        injections(grid, 4, 1, 3);
        grid.use(0, false);
        return grid;
    }
}
