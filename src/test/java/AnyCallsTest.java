/** Long rows of calls with any arguments: none may throw, and a call that is refused changes nothing. */
public final class AnyCallsTest {
    private static final int ROWS = 3000;
    private static final int CALLS = 512;
    private static final int METHODS = 14;
    private static final int[] INTS = {Integer.MIN_VALUE, -2, -1, 10, 12, 29, 30, 600, 601, 3600, 3601,
        Integer.MAX_VALUE};
    private static final double[] DOUBLES = {Double.NaN, 1.0 / 0.0, -1.0 / 0.0, -50.125, -50.0, -0.125, -0.0,
        Double.MIN_VALUE, 0.125, 0.5, 1.0, 100.0, 150.0, 200.0, 1000.0, 1000.125, Double.MAX_VALUE};

    private static long seed = 12345;
    private static int refusals = 0;

    public static void main(String[] args) {
        for (int row = 0; row < ROWS; row++) {
            if (!rowIsRight()) {
                System.out.println("row " + row + ": a refused call changed something");
                System.exit(1);
            }
        }
        System.out.println(ROWS + " rows of calls are right, " + refusals + " refused calls among them");
    }

    /** The second object is spared the calls that the first one refuses: the two have to answer alike. */
    private static boolean rowIsRight() {
        CleanRuns first = new CleanRuns();
        CleanRuns second = new CleanRuns();
        for (int i = 0; i < CALLS; i++) {
            int method = i < 40 ? i % 3 : (int) below(METHODS + 40);
            int[] ints = {anyInt(), anyInt(), anyInt()};
            double[] doubles = {anyDouble(), anyDouble(), anyDouble()};
            double answer = call(first, method, ints, doubles);
            if (isRefused(method, answer)) {
                refusals++;
            } else if (call(second, method, ints, doubles) != answer) {
                return false;
            }
        }
        return true;
    }

    private static boolean isRefused(int method, double answer) {
        boolean answersABoolean = method == 1 || method == 9 || method == 11;
        return answersABoolean ? answer == 0.0 : answer < 0.0;
    }

    private static double call(CleanRuns x, int method, int[] n, double[] d) {
        switch (method) {
            case 0: return x.recipe();
            case 1: return x.step(n[0], n[1], n[2], d[0], d[1]) ? 1.0 : 0.0;
            case 2: return x.start(n[0], n[1]);
            case 4: return x.state(n[0]);
            case 5: return x.stepOf(n[0]);
            case 6: return x.counted(n[0]);
            case 7: return x.failed(n[0]);
            case 8: return x.cleaner(n[0], n[1]);
            case 9: return x.interface2(n[0], d[0], n[1]) ? 1.0 : 0.0;
            case 10: return x.level(n[0]);
            case 11: return x.breakOff(n[0]) ? 1.0 : 0.0;
            case 12: return x.record(n[0], n[1], n[2]);
            case 13: return x.states();
            default: return x.tick(n[0], d[0], d[1], d[2]);
        }
    }

    /** The next of a fixed row of numbers, the same in every run. */
    private static long below(int bound) {
        seed = seed * 6364136223846793005L + 1442695040888963407L;
        return (seed >>> 33) % bound;
    }

    private static int anyInt() {
        return below(12) == 0 ? INTS[(int) below(INTS.length)] : (int) below(4);
    }

    private static double anyDouble() {
        return below(12) == 0 ? DOUBLES[(int) below(DOUBLES.length)] : below(33) * 0.125;
    }
}
