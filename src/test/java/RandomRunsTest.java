/** Long runs of calls, drawn from fixed numbers, against the model. */
public final class RandomRunsTest {
    private static final int RUNS = 200;

    private static final Due due = new Due();
    private static long state;

    public static void main(String[] args) {
        for (int run = 0; run < RUNS && due.isClean(); run++) {
            state = run;
            wander(new Pair(due, "wandering run " + run, run % 8));
            settle(new Pair(due, "settled run " + run, 5));
            strain(new Pair(due, "straining run " + run, 5));
        }
        due.close();
    }

    /** The same numbers each time; the high bits of a linear generator are the good ones. */
    private static int below(int bound) {
        state = state * 6364136223846793005L + 1442695040888963407L;
        return (int) ((state >>> 33) % bound);
    }

    private static int from(int lowest, int highest) {
        return lowest + below(highest - lowest + 1);
    }

    /** Any call at any time, now and then with a wrong argument. */
    private static void wander(Pair pair) {
        int calls = 30 + below(90);
        for (int call = 0; call < calls; call++) {
            switch (below(12)) {
                case 0, 1 -> pair.addLine(from(-1, 5), from(-1, 5), 1 + below(2));
                case 2 -> pair.addLine(below(5), below(5), from(0, 3));
                case 3 -> pair.setBreaker(from(-1, 8), below(3) > 0);
                case 4, 5 -> pair.addMeter(below(2), below(5), from(-50, 50), 1 + below(2));
                case 6 -> pair.addMeter(from(-1, 2), from(-1, 8), from(-53, 53), from(0, 3));
                case 7 -> pair.read(from(-1, 10), from(-53, 53));
                case 8 -> pair.use(from(-1, 10), below(3) > 0);
                case 9 -> pair.clean(from(-1, 5), below(2) == 0 ? from(-1, 40) : from(-1, 201));
                case 10 -> pair.askBus(from(-1, 5));
                default -> pair.askMeter(from(-1, 10));
            }
        }
        pair.askAll();
    }

    /** A well joined grid with many meters, whose breakers, readings and uses change then. */
    private static void settle(Pair pair) {
        for (int line = 0; line < 12; line++) {
            pair.addLine(below(5), below(5), 1 + below(2));
        }
        int highest = below(3) == 0 ? 3 : 50;
        for (int meter = 0; meter < 10; meter++) {
            pair.addMeter(below(2), below(5), from(-highest, highest), 1 + below(2));
        }
        pair.askAll();
        for (int change = 0; change < 6; change++) {
            switch (below(5)) {
                case 0 -> pair.setBreaker(below(8), below(2) == 0);
                case 1 -> pair.read(below(10), from(-highest, highest));
                case 2 -> pair.use(below(10), below(2) == 0);
                default -> pair.clean(below(5), below(highest * 2));
            }
            pair.askBus(below(5));
            pair.askMeter(below(10));
        }
        pair.askAll();
    }

    /** The greatest numbers: all lines strong, all meters accurate, all readings at an end. */
    private static void strain(Pair pair) {
        int left = below(5);
        for (int bus = 0; bus < 5; bus++) {
            for (int other = 0; other < bus; other++) {
                boolean isTurned = below(2) == 0;
                if ((bus + other) % 5 != left) {
                    pair.addLine(isTurned ? bus : other, isTurned ? other : bus, 2);
                }
            }
        }
        for (int meter = 0; meter < 10; meter++) {
            pair.addMeter(below(6) == 0 ? 0 : 1, below(5), below(2) == 0 ? 50 : -50, 2);
        }
        pair.askAll();
        pair.clean(0, 0);
        pair.askAll();
    }
}
