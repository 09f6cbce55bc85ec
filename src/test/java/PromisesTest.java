/** Each promise of the document by itself: ordinary inputs, the edges that it names, and wrong inputs. */
public final class PromisesTest {
    private static final int RINSE = 0;
    private static final int CAUSTIC = 1;
    private static final int ACID = 2;
    private static final int STERILE = 3;
    private static final int DRAIN = 4;
    private static final int WAITING = 0;
    private static final int COUNTING = 1;
    private static final int FAILED = 2;
    private static final int DONE = 3;
    private static final int BROKEN = 4;
    private static final int NONE = -1;
    private static final int FULL = -2;
    private static final int[] WRONG = {-1, 1, 30, 31, Integer.MIN_VALUE, Integer.MAX_VALUE};

    private static final double TINY = Double.MIN_VALUE;

    private static int wrong = 0;

    public static void main(String[] args) {
        newObject();
        recipe();
        step();
        stepRefused();
        start();
        startFull();
        tickOfAStepThatEnds();
        tickRefused();
        tickOfARunThatIsOver();
        rinseHolds();
        causticAndAcidHold();
        sterileHolds();
        drainHolds();
        missesInARow();
        failuresOfAStep();
        failuresAreEachStepsOwn();
        state();
        stepOf();
        counted();
        failed();
        cleanerByKind();
        cleanerInEachState();
        cleanerInOrder();
        cleanerRefused();
        interfaceHoldsAStep();
        interfaceByKind();
        interfaceTooLate();
        interfaceChangedWhileWaiting();
        interfaceRefused();
        level();
        breakOff();
        record();
        recordOfEnds();
        recordRefused();
        runsStandApart();
        states();
        System.out.println(wrong == 0 ? "every promise holds" : wrong + " answers are not as due");
        if (wrong != 0) {
            System.exit(1);
        }
    }

    private static void due(String call, long got, long want) {
        if (got != want) {
            wrong++;
            System.out.println(call + " answered " + got + ", due is " + want);
        }
    }

    private static void due(String call, boolean got, boolean want) {
        due(call, got ? 1 : 0, want ? 1 : 0);
    }

    private static void dueDouble(String call, double got, double want) {
        if (got != want) {
            wrong++;
            System.out.println(call + " answered " + got + ", due is " + want);
        }
    }

    /** An object with recipe 0 of the kinds told, a second each, which any strength and degrees satisfy, and run 0. */
    private static CleanRuns runOf(int... kinds) {
        CleanRuns x = new CleanRuns();
        x.recipe();
        for (int kind : kinds) {
            x.step(0, kind, 1, kind == RINSE ? 100.0 : 0.0, 0.0);
        }
        x.start(0, 5);
        return x;
    }

    /** An object with run 0 of one step that nothing ends within a test. */
    private static CleanRuns runOfOne(int kind, double strength, double degrees) {
        CleanRuns x = new CleanRuns();
        x.recipe();
        x.step(0, kind, 3600, strength, degrees);
        x.start(0, 5);
        return x;
    }

    private static int ticks(CleanRuns x, int times, double strength, double degrees, double flow) {
        int state = NONE;
        for (int i = 0; i < times; i++) {
            state = x.tick(0, strength, degrees, flow);
        }
        return state;
    }

    /** Run 0, which has no interface and is at a CAUSTIC, misses seconds by a flow of 0. */
    private static int misses(CleanRuns x, int times) {
        return ticks(x, times, 0.0, 0.0, 0.0);
    }

    private static CleanRuns failedRun() {
        CleanRuns x = runOf(CAUSTIC);
        due("the 90th miss", misses(x, 90), FAILED);
        return x;
    }

    private static CleanRuns doneRun() {
        CleanRuns x = runOf(CAUSTIC);
        due("the last second", x.tick(0, 1.0, 1.0, 1.0), DONE);
        return x;
    }

    private static CleanRuns brokenRun() {
        CleanRuns x = runOf(CAUSTIC);
        due("breakOff", x.breakOff(0), true);
        return x;
    }

    private static void newObject() {
        CleanRuns x = new CleanRuns();
        due("new: start", x.start(0, 1), NONE);
        due("new: step", x.step(0, RINSE, 1, 1.0, 1.0), false);
        due("new: state", x.state(0), NONE);
        due("new: tick", x.tick(0, 1.0, 1.0, 1.0), NONE);
        due("new: recipe", x.recipe(), 0);
        due("another new: start", new CleanRuns().start(0, 1), NONE);
    }

    private static void recipe() {
        CleanRuns x = new CleanRuns();
        for (int i = 0; i < 10; i++) {
            due("recipe", x.recipe(), i);
        }
        due("recipe 11", x.recipe(), FULL);
        due("recipe 12", x.recipe(), FULL);
        due("a recipe without steps", x.start(9, 1), NONE);
        due("step of recipe 9", x.step(9, RINSE, 1, 1.0, 1.0), true);
        due("step of recipe 10", x.step(10, RINSE, 1, 1.0, 1.0), false);
        due("start of recipe 9", x.start(9, 1), 0);
        due("start of recipe 0", x.start(0, 1), NONE);
    }

    private static void step() {
        CleanRuns x = new CleanRuns();
        x.recipe();
        x.recipe();
        for (int kind = RINSE; kind <= DRAIN; kind++) {
            due("step of kind " + kind, x.step(0, kind, 1, 0.0, 0.0), true);
        }
        due("the most of all", x.step(0, RINSE, 3600, 100.0, 150.0), true);
        for (int i = 6; i < 12; i++) {
            due("step " + i, x.step(0, RINSE, 1, 100.0, 0.0), true);
        }
        due("step 13", x.step(0, RINSE, 1, 100.0, 0.0), false);
        due("start", x.start(0, 1), 0);
        due("step of another recipe", x.step(1, RINSE, 1, 100.0, 0.0), true);
        due("start of another recipe", x.start(1, 1), 1);
        due("step behind its start", x.step(1, RINSE, 1, 100.0, 0.0), false);
        x.breakOff(1);
        due("step behind its run", x.step(1, RINSE, 1, 100.0, 0.0), false);
    }

    private static void stepRefused() {
        CleanRuns x = new CleanRuns();
        x.recipe();
        for (int recipe : WRONG) {
            due("step of recipe " + recipe, x.step(recipe, RINSE, 1, 1.0, 1.0), false);
        }
        for (int kind : new int[] {-1, 5, Integer.MIN_VALUE, Integer.MAX_VALUE}) {
            due("step of kind " + kind, x.step(0, kind, 1, 1.0, 1.0), false);
        }
        for (int seconds : new int[] {0, -1, 3601, Integer.MIN_VALUE, Integer.MAX_VALUE}) {
            due("step of seconds " + seconds, x.step(0, RINSE, seconds, 1.0, 1.0), false);
        }
        for (double strength : new double[] {-TINY, Math.nextUp(100.0), -1e300, 1.0 / 0.0, -1.0 / 0.0, Double.NaN}) {
            due("step of strength " + strength, x.step(0, RINSE, 1, strength, 1.0), false);
        }
        for (double degrees : new double[] {-TINY, Math.nextUp(150.0), -1e300, 1.0 / 0.0, -1.0 / 0.0, Double.NaN}) {
            due("step of degrees " + degrees, x.step(0, RINSE, 1, 1.0, degrees), false);
        }
        due("start behind refused steps", x.start(0, 1), NONE);
        due("step behind a refused start", x.step(0, RINSE, 1, 1.0, 1.0), true);
    }

    private static void start() {
        CleanRuns x = new CleanRuns();
        x.recipe();
        due("start without steps", x.start(0, 1), NONE);
        x.step(0, RINSE, 1, 1.0, 1.0);
        for (int recipe : WRONG) {
            due("start of recipe " + recipe, x.start(recipe, 1), NONE);
        }
        for (int level : new int[] {0, 10, -1, Integer.MIN_VALUE, Integer.MAX_VALUE}) {
            due("start for level " + level, x.start(0, level), NONE);
        }
        due("start for level 1", x.start(0, 1), 0);
        due("start for level 9", x.start(0, 9), 1);
        due("a begun run", x.state(0), COUNTING);
    }

    private static void startFull() {
        CleanRuns x = new CleanRuns();
        x.recipe();
        x.recipe();
        x.step(0, RINSE, 1, 100.0, 0.0);
        for (int i = 0; i < 30; i++) {
            due("start", x.start(0, 1), i);
        }
        due("start 31", x.start(0, 1), FULL);
        due("run 29", x.state(29), COUNTING);
        due("run 30", x.state(30), NONE);
        due("start 31 without steps", x.start(1, 1), NONE);
        due("start 31 for level 0", x.start(0, 0), NONE);
        x.breakOff(0);
        due("start behind a broken run", x.start(0, 1), FULL);
    }

    private static void tickOfAStepThatEnds() {
        CleanRuns x = new CleanRuns();
        x.recipe();
        x.step(0, CAUSTIC, 3, 0.0, 0.0);
        x.step(0, RINSE, 1, 100.0, 0.0);
        x.start(0, 1);
        due("second 0", x.tick(0, 1.0, 1.0, 1.0), COUNTING);
        due("second 1, missed", x.tick(0, 1.0, 1.0, 0.0), COUNTING);
        due("second 2", x.tick(0, 1.0, 1.0, 1.0), COUNTING);
        due("step behind two that counted", x.stepOf(0), 0);
        due("second 3", x.tick(0, 1.0, 1.0, 1.0), COUNTING);
        due("step behind three that counted", x.stepOf(0), 1);
        due("second 4", x.tick(0, 1.0, 1.0, 1.0), DONE);
    }

    private static void tickRefused() {
        CleanRuns x = runOfOne(CAUSTIC, 0.0, 0.0);
        for (int run : WRONG) {
            due("tick of run " + run, x.tick(run, 1.0, 1.0, 1.0), NONE);
        }
        for (double much : new double[] {-TINY, Math.nextUp(1000.0), 1.0 / 0.0, -1.0 / 0.0, Double.NaN}) {
            due("tick with strength " + much, x.tick(0, much, 1.0, 1.0), NONE);
            due("tick with flow " + much, x.tick(0, 1.0, 1.0, much), NONE);
        }
        double[] wrongDegrees = {Math.nextDown(-50.0), Math.nextUp(200.0), 1.0 / 0.0, -1.0 / 0.0, Double.NaN};
        for (double degrees : wrongDegrees) {
            due("tick with degrees " + degrees, x.tick(0, 1.0, degrees, 1.0), NONE);
        }
        due("counted behind refused ticks", x.counted(0), 0);
        dueDouble("used behind refused ticks", x.cleaner(0, 1), 0.0);
        due("tick with the most", x.tick(0, 1000.0, 200.0, 1000.0), COUNTING);
        due("tick with the least", x.tick(0, 0.0, -50.0, 0.0), COUNTING);
        due("counted", x.counted(0), 1);
        x.breakOff(0);
        due("seconds", x.record(0, 0, 3), 2);
        due("a broken run, wrong strength", x.tick(0, -1.0, 1.0, 1.0), NONE);
    }

    private static void tickOfARunThatIsOver() {
        CleanRuns[] over = {failedRun(), doneRun(), brokenRun()};
        for (int i = 0; i < over.length; i++) {
            CleanRuns x = over[i];
            int state = x.state(0);
            long counted = x.counted(0);
            int end = x.record(0, 0, 3);
            double used = x.cleaner(0, 1);
            due("over " + i + ": tick", ticks(x, 3, 1.0, 1.0, 1.0), state);
            due("over " + i + ": miss", misses(x, 31), state);
            due("over " + i + ": counted", x.counted(0), counted);
            due("over " + i + ": end", x.record(0, 0, 3), end);
            dueDouble("over " + i + ": used", x.cleaner(0, 1), used);
        }
    }

    private static void dueToHold(CleanRuns x, boolean holds, double strength, double degrees, double flow) {
        long before = x.counted(0);
        x.tick(0, strength, degrees, flow);
        due("hold with " + strength + ", " + degrees + ", " + flow, x.counted(0) > before, holds);
    }

    private static void rinseHolds() {
        CleanRuns x = runOfOne(RINSE, 5.0, 90.0);
        dueToHold(x, true, 5.0, 20.0, 1.0);
        dueToHold(x, true, 0.0, -50.0, 1000.0);
        dueToHold(x, false, Math.nextUp(5.0), 90.0, 1.0);
        dueToHold(x, false, 5.0, 90.0, Math.nextDown(1.0));
    }

    private static void causticAndAcidHold() {
        for (int kind = CAUSTIC; kind <= ACID; kind++) {
            CleanRuns x = runOfOne(kind, 2.0, 70.0);
            dueToHold(x, true, 2.0, 70.0, 1.0);
            dueToHold(x, true, 1000.0, 200.0, 1000.0);
            dueToHold(x, false, Math.nextDown(2.0), 70.0, 1.0);
            dueToHold(x, false, 2.0, Math.nextDown(70.0), 1.0);
            dueToHold(x, false, 2.0, 70.0, Math.nextDown(1.0));
        }
    }

    private static void sterileHolds() {
        CleanRuns x = runOfOne(STERILE, 50.0, 120.0);
        dueToHold(x, true, 0.0, 120.0, 0.5);
        dueToHold(x, true, 1000.0, 200.0, 1000.0);
        dueToHold(x, false, 50.0, Math.nextDown(120.0), 0.5);
        dueToHold(x, false, 50.0, 120.0, Math.nextDown(0.5));
    }

    private static void drainHolds() {
        CleanRuns x = runOfOne(DRAIN, 50.0, 50.0);
        dueToHold(x, true, 0.0, 0.0, 0.125);
        dueToHold(x, true, 1000.0, 200.0, 0.0);
        dueToHold(x, false, 50.0, 50.0, Math.nextUp(0.125));
    }

    private static void missesInARow() {
        CleanRuns x = runOfOne(CAUSTIC, 0.0, 0.0);
        ticks(x, 4, 1.0, 1.0, 1.0);
        misses(x, 29);
        due("29 missed: failed", x.failed(0), 0);
        due("29 missed: counted", x.counted(0), 4);
        ticks(x, 1, 1.0, 1.0, 1.0);
        misses(x, 29);
        due("29 missed again: failed", x.failed(0), 0);
        due("29 missed again: counted", x.counted(0), 5);
        due("30 missed", misses(x, 1), COUNTING);
        due("30 missed: failed", x.failed(0), 1);
        due("30 missed: counted", x.counted(0), 0);
        due("counts on", ticks(x, 1, 1.0, 1.0, 1.0), COUNTING);
        due("counts on: counted", x.counted(0), 1);
    }

    private static void failuresOfAStep() {
        CleanRuns x = runOfOne(CAUSTIC, 0.0, 0.0);
        due("first failure", misses(x, 30), COUNTING);
        due("29 more", misses(x, 29), COUNTING);
        due("29 more: failed", x.failed(0), 1);
        due("second failure", misses(x, 1), COUNTING);
        due("second failure: failed", x.failed(0), 2);
        ticks(x, 2, 1.0, 1.0, 1.0);
        due("before the third", misses(x, 29), COUNTING);
        due("before the third: counted", x.counted(0), 2);
        due("third failure", misses(x, 1), FAILED);
        due("third failure: failed", x.failed(0), 3);
        due("third failure: counted", x.counted(0), 0);
        due("third failure: step", x.stepOf(0), 0);
    }

    private static void failuresAreEachStepsOwn() {
        CleanRuns x = runOf(CAUSTIC, ACID, STERILE);
        misses(x, 60);
        misses(x, 29);
        due("step 0 ends", x.tick(0, 1.0, 1.0, 1.0), COUNTING);
        due("a miss of step 1", misses(x, 1), COUNTING);
        due("step 1 begins without misses", x.failed(0), 2);
        due("step 1 fails twice", misses(x, 59), COUNTING);
        due("failed of both steps", x.failed(0), 4);
        due("failed of step 0", x.record(0, 0, 1), 2);
        due("failed of step 1", x.record(0, 1, 1), 2);
        due("step 1 ends", x.tick(0, 1.0, 1.0, 1.0), COUNTING);
        due("step 2 fails", misses(x, 90), FAILED);
        due("failed of all steps", x.failed(0), 7);
        due("the step that failed", x.stepOf(0), 2);
    }

    private static void state() {
        CleanRuns x = runOf(CAUSTIC, CAUSTIC);
        due("state", x.state(0), COUNTING);
        x.interface2(0, 50.0, 1);
        due("state of the first step with an interface", x.state(0), COUNTING);
        x.tick(0, 0.0, 0.0, 1.0);
        due("state at the interface", x.state(0), WAITING);
        x.tick(0, 50.0, 0.0, 1.0);
        due("state behind the interface", x.state(0), COUNTING);
        due("state of a failed run", failedRun().state(0), FAILED);
        due("state of a done run", doneRun().state(0), DONE);
        due("state of a broken run", brokenRun().state(0), BROKEN);
        for (int run : WRONG) {
            due("state of run " + run, x.state(run), NONE);
        }
    }

    private static void stepOf() {
        CleanRuns x = runOf(CAUSTIC, ACID, STERILE);
        due("stepOf at first", x.stepOf(0), 0);
        x.tick(0, 1.0, 1.0, 1.0);
        due("stepOf behind a second", x.stepOf(0), 1);
        x.tick(0, 1.0, 1.0, 1.0);
        due("stepOf behind two", x.stepOf(0), 2);
        due("done", x.tick(0, 1.0, 1.0, 1.0), DONE);
        due("stepOf of a done run", x.stepOf(0), 2);
        CleanRuns broken = runOf(CAUSTIC, ACID, STERILE);
        broken.tick(0, 1.0, 1.0, 1.0);
        broken.breakOff(0);
        due("stepOf of a broken run", broken.stepOf(0), 1);
        due("stepOf of a failed run", failedRun().stepOf(0), 0);
        for (int run : WRONG) {
            due("stepOf run " + run, x.stepOf(run), NONE);
        }
    }

    private static void counted() {
        CleanRuns x = new CleanRuns();
        x.recipe();
        x.step(0, CAUSTIC, 3, 0.0, 0.0);
        x.step(0, CAUSTIC, 2, 0.0, 0.0);
        x.start(0, 1);
        due("counted at first", x.counted(0), 0);
        ticks(x, 2, 1.0, 1.0, 1.0);
        due("counted", x.counted(0), 2);
        misses(x, 1);
        due("counted behind a miss", x.counted(0), 2);
        ticks(x, 1, 1.0, 1.0, 1.0);
        due("counted of the next step", x.counted(0), 0);
        ticks(x, 1, 1.0, 1.0, 1.0);
        due("counted of the next step behind a second", x.counted(0), 1);
        x.breakOff(0);
        due("counted of a broken run", x.counted(0), 1);
        due("counted of a done run", doneRun().counted(0), 1);
        due("counted of a failed run", failedRun().counted(0), 0);
        for (int run : WRONG) {
            due("counted of run " + run, x.counted(run), NONE);
        }
    }

    private static void failed() {
        CleanRuns x = runOf(CAUSTIC);
        due("failed at first", x.failed(0), 0);
        misses(x, 30);
        due("failed once", x.failed(0), 1);
        due("the step goes on", x.tick(0, 1.0, 1.0, 1.0), DONE);
        due("failed of a done run", x.failed(0), 1);
        due("failed of a failed run", failedRun().failed(0), 3);
        for (int run : WRONG) {
            due("failed of run " + run, x.failed(run), NONE);
        }
    }

    private static void dueUsed(String of, CleanRuns x, double water, double out, double back) {
        dueDouble(of + ": water", x.cleaner(0, 0), water);
        dueDouble(of + ": out", x.cleaner(0, 1), out);
        dueDouble(of + ": back", x.cleaner(0, 2), back);
        dueDouble(of + ": left", x.cleaner(0, 3), 1000.0 - out + back);
    }

    private static void cleanerByKind() {
        for (int kind = RINSE; kind <= DRAIN; kind++) {
            CleanRuns x = runOfOne(kind, kind == RINSE ? 100.0 : 0.0, 0.0);
            dueUsed("at first", x, 0.0, 0.0, 0.0);
            boolean water = kind == RINSE || kind == DRAIN;
            double more = water ? 0.0 : 1.0;
            x.tick(0, 1.0, 1.0, 3.0);
            dueUsed("kind " + kind + ", holds", x, water ? 3.0 : 0.0, 3.0 * more, 3.0 * more);
            x.tick(0, 1.0, 1.0, 0.25);
            dueUsed("kind " + kind + ", holds not", x, water ? 3.25 : 0.0, 3.25 * more, 3.125 * more);
        }
    }

    private static void cleanerInEachState() {
        CleanRuns x = runOf(CAUSTIC, ACID, RINSE);
        x.interface2(0, 50.0, 2);
        x.tick(0, 1.0, 1.0, 2.0);
        dueUsed("behind the step ahead", x, 0.0, 2.0, 2.0);
        x.tick(0, 50.0, 1.0, 4.0);
        dueUsed("waiting", x, 0.0, 6.0, 2.0);
        due("reaches the hold", x.tick(0, 50.0, 1.0, 8.0), COUNTING);
        dueUsed("waiting for the last second", x, 0.0, 14.0, 2.0);
        due("the step ends", x.tick(0, 50.0, 1.0, 16.0), WAITING);
        dueUsed("counting", x, 0.0, 30.0, 18.0);
        x.tick(0, 90.0, 1.0, 32.0);
        dueUsed("water waiting", x, 32.0, 30.0, 18.0);
        x.breakOff(0);
        x.tick(0, 1.0, 1.0, 64.0);
        dueUsed("broken", x, 32.0, 30.0, 18.0);
        CleanRuns failed = runOfOne(CAUSTIC, 100.0, 0.0);
        ticks(failed, 90, 0.0, 0.0, 2.0);
        dueUsed("failed, with its last second", failed, 0.0, 180.0, 90.0);
        failed.tick(0, 0.0, 0.0, 2.0);
        dueUsed("behind its failure", failed, 0.0, 180.0, 90.0);
    }

    private static void cleanerInOrder() {
        double[] flows = {0.1, 1000.0, 0.7, 3.3, 0.2, 999.9, 0.3};
        CleanRuns water = runOfOne(RINSE, 100.0, 0.0);
        CleanRuns cleaner = runOfOne(CAUSTIC, 50.0, 0.0);
        double all = 0.0;
        double halves = 0.0;
        for (double flow : flows) {
            water.tick(0, 0.0, 0.0, flow);
            cleaner.tick(0, 0.0, 0.0, flow);
            all += flow;
            halves += flow / 2.0;
        }
        dueUsed("water in order", water, all, 0.0, 0.0);
        dueUsed("cleaner in order", cleaner, 0.0, all, halves);
    }

    private static void cleanerRefused() {
        CleanRuns x = runOf(CAUSTIC, CAUSTIC);
        x.tick(0, 1.0, 1.0, 2.0);
        for (int what : new int[] {-1, 4, Integer.MIN_VALUE, Integer.MAX_VALUE}) {
            dueDouble("cleaner(0, " + what + ")", x.cleaner(0, what), -1.0);
        }
        for (int run : WRONG) {
            for (int what = 0; what < 4; what++) {
                dueDouble("cleaner(" + run + ", " + what + ")", x.cleaner(run, what), -1.0);
            }
        }
    }

    private static void interfaceHoldsAStep() {
        CleanRuns x = runOf(CAUSTIC, CAUSTIC, CAUSTIC);
        due("interface2", x.interface2(0, 3.0, 3), true);
        due("the first step ends", x.tick(0, 0.0, 0.0, 1.0), WAITING);
        due("a second passed", x.tick(0, 3.0, 0.0, 1.0), WAITING);
        due("two passed", x.tick(0, 3.0, 0.0, 1.0), WAITING);
        due("0 again", x.tick(0, 2.875, 0.0, 1.0), WAITING);
        due("two passed again", ticks(x, 2, 3.0, 0.0, 1.0), WAITING);
        due("three passed", x.tick(0, 3.0, 0.0, 1.0), COUNTING);
        due("none counted by then", x.counted(0), 0);
        due("counts by its own strength", x.tick(0, 0.0, 0.0, 1.0), WAITING);
        due("the next step waits too", x.stepOf(0), 2);
        due("a wait misses nothing", ticks(x, 100, 0.0, 0.0, 0.0), WAITING);
        due("a wait does not fail", x.failed(0), 0);
        due("begins with its seconds passed anew", ticks(x, 2, 3.0, 0.0, 1.0), WAITING);
        due("hold reached", x.tick(0, 3.0, 0.0, 1.0), COUNTING);
        due("done", x.tick(0, 0.0, 0.0, 1.0), DONE);
    }

    private static void interfaceByKind() {
        for (int kind = RINSE; kind <= DRAIN; kind++) {
            boolean down = kind == RINSE || kind == DRAIN;
            CleanRuns x = runOf(CAUSTIC, kind, CAUSTIC);
            x.interface2(0, 3.0, 1);
            due("kind " + kind + " waits", x.tick(0, 1.0, 0.0, 1.0), WAITING);
            double beyond = down ? Math.nextUp(3.0) : Math.nextDown(3.0);
            due("kind " + kind + " goes on waiting", x.tick(0, beyond, 0.0, 1.0), WAITING);
            due("kind " + kind + " counts", x.tick(0, 3.0, 0.0, 0.25), COUNTING);
            due("kind " + kind + " ends", x.tick(0, 1.0, 0.0, kind == DRAIN ? 0.0 : 1.0), WAITING);
        }
    }

    private static void interfaceTooLate() {
        CleanRuns x = runOf(CAUSTIC, CAUSTIC, CAUSTIC, CAUSTIC);
        due("the first step ends", x.tick(0, 0.0, 0.0, 1.0), COUNTING);
        due("interface2 behind it", x.interface2(0, 3.0, 1), true);
        due("too late for the state", x.state(0), COUNTING);
        due("too late for step 1, not for step 2", x.tick(0, 0.0, 0.0, 1.0), WAITING);
        due("step 1 counted at once", x.stepOf(0), 2);
    }

    private static void interfaceChangedWhileWaiting() {
        CleanRuns x = runOf(CAUSTIC, CAUSTIC, CAUSTIC);
        x.interface2(0, 50.0, 10);
        x.tick(0, 0.0, 0.0, 1.0);
        due("four passed", ticks(x, 4, 50.0, 0.0, 1.0), WAITING);
        due("a hold that is reached", x.interface2(0, 60.0, 2), true);
        due("is looked at in the next second", x.state(0), WAITING);
        due("which is 0 again", x.tick(0, 59.875, 0.0, 1.0), WAITING);
        due("one by the new value", x.tick(0, 60.0, 0.0, 1.0), WAITING);
        due("a longer hold", x.interface2(0, 60.0, 4), true);
        due("keeps its second", ticks(x, 2, 60.0, 0.0, 1.0), WAITING);
        due("until four passed", x.tick(0, 60.0, 0.0, 1.0), COUNTING);
        x.tick(0, 0.0, 0.0, 1.0);
        x.tick(0, 60.0, 0.0, 1.0);
        x.tick(0, 60.0, 0.0, 1.0);
        x.interface2(0, 60.0, 1);
        due("a shorter hold is met in the next second", x.tick(0, 60.0, 0.0, 1.0), COUNTING);
        x.interface2(0, 100.0, 600);
        due("no interface for a step that counts", x.tick(0, 0.0, 0.0, 1.0), DONE);
    }

    private static void interfaceRefused() {
        CleanRuns x = runOf(CAUSTIC, CAUSTIC);
        for (int run : WRONG) {
            due("interface2 of run " + run, x.interface2(run, 1.0, 1), false);
        }
        for (double at : new double[] {-TINY, Math.nextUp(100.0), 1.0 / 0.0, -1.0 / 0.0, Double.NaN}) {
            due("interface2 at " + at, x.interface2(0, at, 1), false);
        }
        for (int hold : new int[] {0, -1, 601, Integer.MIN_VALUE, Integer.MAX_VALUE}) {
            due("interface2 with hold " + hold, x.interface2(0, 1.0, hold), false);
        }
        due("no interface behind refused ones", x.tick(0, 0.0, 0.0, 1.0), COUNTING);
        due("the least", x.interface2(0, 0.0, 1), true);
        due("the most", x.interface2(0, 100.0, 600), true);
        due("interface2 of a failed run", failedRun().interface2(0, 1.0, 1), false);
        due("interface2 of a done run", doneRun().interface2(0, 1.0, 1), false);
        due("interface2 of a broken run", brokenRun().interface2(0, 1.0, 1), false);
    }

    private static void level() {
        for (int level = 1; level <= 9; level++) {
            CleanRuns x = new CleanRuns();
            x.recipe();
            x.step(0, CAUSTIC, 1, 0.0, 0.0);
            x.start(0, level);
            due("level on the way", x.level(0), 0);
            x.tick(0, 0.0, 0.0, 1.0);
            due("level reached", x.level(0), level);
            for (int run : WRONG) {
                due("level of run " + run, x.level(run), NONE);
            }
        }
        CleanRuns waits = runOf(CAUSTIC, CAUSTIC);
        waits.interface2(0, 50.0, 1);
        waits.tick(0, 0.0, 0.0, 1.0);
        due("level of a waiting run", waits.level(0), 0);
        due("level of a failed run", failedRun().level(0), 0);
        due("level of a broken run", brokenRun().level(0), 0);
    }

    private static void breakOff() {
        CleanRuns x = runOf(CAUSTIC, CAUSTIC);
        for (int run : WRONG) {
            due("breakOff of run " + run, x.breakOff(run), false);
        }
        due("the run goes on", x.state(0), COUNTING);
        x.interface2(0, 50.0, 1);
        x.tick(0, 0.0, 0.0, 1.0);
        due("breakOff of a waiting run", x.breakOff(0), true);
        due("its state", x.state(0), BROKEN);
        due("breakOff of a broken run", x.breakOff(0), false);
        CleanRuns failed = failedRun();
        due("breakOff of a failed run", failed.breakOff(0), false);
        due("it stays failed", failed.state(0), FAILED);
        CleanRuns done = doneRun();
        due("breakOff of a done run", done.breakOff(0), false);
        due("it stays done", done.state(0), DONE);
    }

    private static void dueRecord(CleanRuns x, int k, int... want) {
        for (int what = 0; what < want.length; what++) {
            due("record(0, " + k + ", " + what + ")", x.record(0, k, what), want[what]);
        }
    }

    private static void record() {
        CleanRuns x = runOf(STERILE, RINSE, DRAIN);
        dueRecord(x, 0, STERILE, 0, 0, NONE);
        dueRecord(x, 1, NONE, NONE, NONE, NONE);
        x.interface2(0, 3.0, 2);
        ticks(x, 30, 1.0, 1.0, 0.0);
        x.tick(0, 1.0, 1.0, 1.0);
        dueRecord(x, 0, STERILE, 1, 0, 31);
        dueRecord(x, 1, RINSE, 0, 31, NONE);
        x.tick(0, 50.0, 1.0, 1.0);
        ticks(x, 2, 3.0, 1.0, 1.0);
        dueRecord(x, 1, RINSE, 0, 31, NONE);
        x.tick(0, 3.0, 1.0, 1.0);
        dueRecord(x, 1, RINSE, 0, 31, 35);
        dueRecord(x, 2, DRAIN, 0, 35, NONE);
        ticks(x, 2, 3.0, 1.0, 1.0);
        due("done", x.tick(0, 3.0, 1.0, 0.125), DONE);
        dueRecord(x, 2, DRAIN, 0, 35, 38);
        dueRecord(x, 0, STERILE, 1, 0, 31);
    }

    private static void recordOfEnds() {
        dueRecord(failedRun(), 0, CAUSTIC, 3, 0, 90);
        dueRecord(doneRun(), 0, CAUSTIC, 0, 0, 1);
        dueRecord(brokenRun(), 0, CAUSTIC, 0, 0, 0);
        CleanRuns x = runOf(CAUSTIC, ACID, CAUSTIC);
        x.interface2(0, 50.0, 1);
        ticks(x, 3, 0.0, 0.0, 1.0);
        x.breakOff(0);
        dueRecord(x, 0, CAUSTIC, 0, 0, 1);
        dueRecord(x, 1, ACID, 0, 1, 3);
        dueRecord(x, 2, NONE, NONE, NONE, NONE);
    }

    private static void recordRefused() {
        CleanRuns x = runOf(CAUSTIC, CAUSTIC);
        x.tick(0, 0.0, 0.0, 1.0);
        for (int what = 0; what < 4; what++) {
            for (int run : WRONG) {
                due("record of run " + run, x.record(run, 0, what), NONE);
            }
            for (int k : new int[] {-1, 2, 12, Integer.MIN_VALUE, Integer.MAX_VALUE}) {
                due("record of step " + k, x.record(0, k, what), NONE);
            }
        }
        for (int what : new int[] {-1, 4, Integer.MIN_VALUE, Integer.MAX_VALUE}) {
            due("record of what " + what, x.record(0, 0, what), NONE);
        }
    }

    private static void runsStandApart() {
        CleanRuns x = new CleanRuns();
        x.recipe();
        for (int i = 0; i < 12; i++) {
            x.step(0, i % 2 == 0 ? CAUSTIC : RINSE, 1, i % 2 == 0 ? 0.0 : 100.0, 0.0);
        }
        x.start(0, 2);
        x.start(0, 3);
        x.interface2(1, 0.0, 600);
        for (int i = 0; i < 11; i++) {
            due("run 0, step " + i, x.tick(0, 50.0, 0.0, 1.0), COUNTING);
        }
        due("run 1, step 0", x.tick(1, 50.0, 0.0, 1.0), WAITING);
        due("run 0 is done", x.tick(0, 50.0, 0.0, 1.0), DONE);
        due("run 0 at its last step", x.stepOf(0), 11);
        due("run 0, last step", x.record(0, 11, 3), 12);
        due("run 1 goes on", x.state(1), WAITING);
        dueDouble("run 0's cleaner", x.cleaner(0, 1), 6.0);
        dueDouble("run 0's water", x.cleaner(0, 0), 6.0);
        dueDouble("run 1's cleaner", x.cleaner(1, 1), 1.0);
        due("run 0's level", x.level(0), 2);
        due("run 1's level", x.level(1), 0);
    }

    private static void states() {
        due("states", new CleanRuns().states(), 5);
        due("states of a used object", failedRun().states(), 5);
    }
}
