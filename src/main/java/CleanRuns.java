/** Cleaning runs by seconds: recipes of steps, and runs of them that are ticked with what is measured. */
public final class CleanRuns {
    public static final int NONE = -1;
    public static final int FULL = -2;

    private static final int MOST_RECIPES = 10;
    private static final int MOST_STEPS = 12;
    private static final int MOST_RUNS = 30;
    private static final int MOST_SECONDS = 3600;
    private static final int MOST_LEVEL = 9;
    private static final int MOST_HOLD = 600;
    private static final int MISSES_OF_A_FAILURE = 30;
    private static final int FAILURES_THAT_END = 3;

    private static final int RINSE = 0;
    private static final int CAUSTIC = 1;
    private static final int ACID = 2;
    private static final int STERILE = 3;
    private static final int DRAIN = 4;

    private static final int WAITING = 0;
    private static final int COUNTING = 1;
    private static final int FAILED = 2;
    private static final int DONE = 3;
    private static final int BROKEN = 4;
    private static final int STATES = 5;

    private final Recipe[] recipes;
    private final Run[] runs;
    private int recipeCount;
    private int runCount;

    public CleanRuns() {
        recipes = new Recipe[MOST_RECIPES];
        runs = new Run[MOST_RUNS];
        recipeCount = 0;
        runCount = 0;
    }

    public int recipe() {
        if (recipeCount < 0 || recipeCount >= recipes.length) {
            return FULL;
        }
        int number = recipeCount;
        recipes[number] = new Recipe();
        recipeCount = number + 1;
        return number;
    }

    public boolean step(int recipe, int kind, int seconds, double strength, double degrees) {
        Recipe target = recipeAt(recipe);
        if (target == null || !target.takesAStep()) {
            return false;
        }
        if (kind < RINSE || kind > DRAIN || seconds < 1 || seconds > MOST_SECONDS) {
            return false;
        }
        if (!within(strength, 0.0, 100.0) || !within(degrees, 0.0, 150.0)) {
            return false;
        }
        target.append(new Step(kind, seconds, strength, degrees));
        return true;
    }

    public int start(int recipe, int level) {
        Recipe source = recipeAt(recipe);
        if (source == null || level < 1 || level > MOST_LEVEL) {
            return NONE;
        }
        Step first = source.stepAt(0);
        if (first == null) {
            return NONE;
        }
        if (runCount < 0 || runCount >= runs.length) {
            return FULL;
        }
        int number = runCount;
        runs[number] = new Run(source, first, level);
        runCount = number + 1;
        source.begun = true;
        return number;
    }

    public int tick(int run, double strength, double degrees, double flow) {
        Run target = runAt(run);
        if (target == null) {
            return NONE;
        }
        // A measurement that is not a number lies within no bounds: it is refused, and never reaches a sum.
        if (!within(strength, 0.0, 1000.0) || !within(flow, 0.0, 1000.0) || !within(degrees, -50.0, 200.0)) {
            return NONE;
        }
        target.passSecond(strength, degrees, flow);
        return target.state;
    }

    public int state(int run) {
        Run target = runAt(run);
        return target == null ? NONE : target.state;
    }

    public int stepOf(int run) {
        Run target = runAt(run);
        return target == null ? NONE : target.begunSteps - 1;
    }

    public long counted(int run) {
        Run target = runAt(run);
        return target == null ? NONE : target.current.counted;
    }

    public int failed(int run) {
        Run target = runAt(run);
        return target == null ? NONE : target.failures;
    }

    public double cleaner(int run, int what) {
        Run target = runAt(run);
        return target == null ? -1.0 : target.used(what);
    }

    public boolean interface2(int run, double at, int hold) {
        Run target = runAt(run);
        if (target == null || target.isOver()) {
            return false;
        }
        if (!within(at, 0.0, 100.0) || hold < 1 || hold > MOST_HOLD) {
            return false;
        }
        target.setInterface(at, hold);
        return true;
    }

    public int level(int run) {
        Run target = runAt(run);
        if (target == null) {
            return NONE;
        }
        return target.state == DONE ? target.goal : 0;
    }

    public boolean breakOff(int run) {
        Run target = runAt(run);
        if (target == null || target.isOver()) {
            return false;
        }
        target.end(BROKEN);
        return true;
    }

    public int record(int run, int k, int what) {
        Run target = runAt(run);
        if (target == null) {
            return NONE;
        }
        Stay stay = target.stayAt(k);
        return stay == null ? NONE : stay.told(what);
    }

    public int states() {
        return STATES;
    }

    private Recipe recipeAt(int number) {
        if (number < 0 || number >= recipeCount || number >= recipes.length) {
            return null;
        }
        return recipes[number];
    }

    private Run runAt(int number) {
        if (number < 0 || number >= runCount || number >= runs.length) {
            return null;
        }
        return runs[number];
    }

    private static boolean within(double value, double least, double most) {
        return value >= least && value <= most;
    }

    /** A step of a recipe: it never changes. */
    private static final class Step {
        final int kind;
        final int seconds;
        final double strength;
        final double degrees;

        Step(int kind, int seconds, double strength, double degrees) {
            this.kind = kind;
            this.seconds = seconds;
            this.strength = strength;
            this.degrees = degrees;
        }

        boolean usesWater() {
            return kind == RINSE || kind == DRAIN;
        }

        boolean holds(double measuredStrength, double measuredDegrees, double flow) {
            switch (kind) {
                case RINSE:
                    return flow >= 1.0 && measuredStrength <= strength;
                case CAUSTIC:
                case ACID:
                    return flow >= 1.0 && measuredStrength >= strength && measuredDegrees >= degrees;
                case STERILE:
                    return flow >= 0.5 && measuredDegrees >= degrees;
                default:
                    return flow <= 0.125;
            }
        }

        /** Cleaner has to come up to an interface's value, water to clear down to it. */
        boolean passesInterface(double measuredStrength, double value) {
            return usesWater() ? measuredStrength <= value : measuredStrength >= value;
        }
    }

    /** The steps of a recipe, which stand fast once a run of it was begun. */
    private static final class Recipe {
        final Step[] steps;
        int size;
        boolean begun;

        Recipe() {
            steps = new Step[MOST_STEPS];
            size = 0;
            begun = false;
        }

        boolean takesAStep() {
            return !begun && size < steps.length;
        }

        void append(Step step) {
            if (size >= 0 && size < steps.length) {
                steps[size] = step;
                size++;
            }
        }

        Step stepAt(int k) {
            if (k < 0 || k >= size || k >= steps.length) {
                return null;
            }
            return steps[k];
        }
    }

    /** A run's stay at one of its steps, kept behind its end for the records. */
    private static final class Stay {
        final Step step;
        final int firstSecond;
        int endSecond;
        int waited;
        int counted;
        int missed;
        int failures;

        Stay(Step step, int firstSecond) {
            this.step = step;
            this.firstSecond = firstSecond;
            endSecond = NONE;
            waited = 0;
            counted = 0;
            missed = 0;
            failures = 0;
        }

        int told(int what) {
            switch (what) {
                case 0:
                    return step.kind;
                case 1:
                    return failures;
                case 2:
                    return firstSecond;
                case 3:
                    return endSecond;
                default:
                    return NONE;
            }
        }
    }

    /** A run of a recipe: its stays at the steps it has begun, and what it has used. */
    private static final class Run {
        final Recipe recipe;
        final int goal;
        final Stay[] stays;
        Stay current;
        int begunSteps;
        int state;
        int second;
        int failures;
        boolean hasInterface;
        double interfaceValue;
        int interfaceHold;
        double water;
        double out;
        double back;

        Run(Recipe recipe, Step first, int goal) {
            this.recipe = recipe;
            this.goal = goal;
            stays = new Stay[MOST_STEPS];
            current = new Stay(first, 0);
            stays[0] = current;
            begunSteps = 1;
            state = COUNTING;
            second = 0;
            failures = 0;
            hasInterface = false;
            interfaceValue = 0.0;
            interfaceHold = 0;
            water = 0.0;
            out = 0.0;
            back = 0.0;
        }

        boolean isOver() {
            return state == FAILED || state == DONE || state == BROKEN;
        }

        Stay stayAt(int k) {
            if (k < 0 || k >= begunSteps || k >= stays.length) {
                return null;
            }
            return stays[k];
        }

        double used(int what) {
            switch (what) {
                case 0:
                    return water;
                case 1:
                    return out;
                case 2:
                    return back;
                case 3:
                    return 1000.0 - out + back;
                default:
                    return -1.0;
            }
        }

        /** The seconds that a waiting step has stay: only its next second is judged by the new interface. */
        void setInterface(double value, int hold) {
            hasInterface = true;
            interfaceValue = value;
            interfaceHold = hold;
        }

        void passSecond(double strength, double degrees, double flow) {
            if (isOver()) {
                return;
            }
            boolean holds = current.step.holds(strength, degrees, flow);
            use(flow, holds);
            second++;
            if (state == WAITING) {
                waitASecond(strength);
            } else if (holds) {
                countASecond();
            } else {
                missASecond();
            }
        }

        private void use(double flow, boolean holds) {
            if (current.step.usesWater()) {
                water += flow;
                return;
            }
            out += flow;
            if (state == COUNTING) {
                back += holds ? flow : flow * 0.5;
            }
        }

        private void waitASecond(double strength) {
            if (!current.step.passesInterface(strength, interfaceValue)) {
                current.waited = 0;
                return;
            }
            current.waited++;
            if (current.waited >= interfaceHold) {
                state = COUNTING;
            }
        }

        private void countASecond() {
            current.missed = 0;
            current.counted++;
            if (current.counted < current.step.seconds) {
                return;
            }
            Step next = recipe.stepAt(begunSteps);
            if (next == null) {
                end(DONE);
            } else {
                current.endSecond = second;
                begin(next);
            }
        }

        private void begin(Step next) {
            if (begunSteps < 0 || begunSteps >= stays.length) {
                return;
            }
            current = new Stay(next, second);
            stays[begunSteps] = current;
            begunSteps++;
            // The interface is looked at here alone: one told behind this second is too late for the step.
            state = hasInterface ? WAITING : COUNTING;
        }

        private void missASecond() {
            current.missed++;
            if (current.missed < MISSES_OF_A_FAILURE) {
                return;
            }
            failures++;
            current.failures++;
            current.counted = 0;
            current.missed = 0;
            if (current.failures >= FAILURES_THAT_END) {
                end(FAILED);
            }
        }

        void end(int finalState) {
            current.endSecond = second;
            state = finalState;
        }
    }
}
