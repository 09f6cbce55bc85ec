/** Each boundary that a sentence of the document names: the last that is on this side of it, the first beyond. */
public final class EdgesTest {
    private static final int RINSE = 0;
    private static final int CAUSTIC = 1;
    private static final int ACID = 2;
    private static final int STERILE = 3;
    private static final int DRAIN = 4;
    private static final int WAITING = 0;
    private static final int COUNTING = 1;
    private static final int FAILED = 2;
    private static final int DONE = 3;
    private static final int BROKEN = 4;
    private static final int NONE = -1;
    private static final int FULL = -2;
    private static final double TINY = Double.MIN_VALUE;

    private static int asked = 0;
    private static int wrong = 0;

    public static void main(String[] args) {
        constants();
        tenRecipes();
        twelveSteps();
        fiveKinds();
        secondsOfAStep();
        aStepOfTheMostSeconds();
        strengthOfAStep();
        degreesOfAStep();
        stepsUntilTheFirstRun();
        thirtyRuns();
        levelsOfAStart();
        strengthOfATick();
        degreesOfATick();
        flowOfATick();
        rinse();
        causticAndAcid();
        sterile();
        drain();
        stepsWithoutLimits();
        aRunBegins();
        theFirstStepNeverWaits();
        theInterfaceAsTheStepAheadEnds();
        theValueOfTheInterface();
        valuesOfAnInterface();
        secondsPassedAgain();
        holdsOfAnInterface();
        aNewHold();
        aWaitIsNoMiss();
        thirtyMissesInARow();
        aFailureTakesWhatWasCounted();
        aFailureTakesTheMisses();
        threeFailuresOfAStep();
        failuresOfOtherSteps();
        usedAsAStepEnds();
        usedAsAWaitEnds();
        usedAsAStepFails();
        usedOfARunThatIsOver();
        usedAtMost();
        usedInTheOrderTold();
        stepOfARunThatIsOver();
        countedAtTheEdges();
        failedAtTheEdges();
        levelOfEachState();
        breakOffOfEachState();
        recordOfTheFirstAndLastStep();
        recordOfAStepNotBegun();
        recordOfAStepThatEnds();
        recordOfARunThatEnds();
        fiveStates();
        fiveHundredAndTwelveCalls();
        System.out.println(asked + " answers at the edges, " + wrong + " of them not as due");
        if (wrong != 0) {
            System.exit(1);
        }
    }

    private static void due(String call, double got, double want) {
        asked++;
        if (got != want) {
            wrong++;
            System.out.println(call + " answered " + got + ", due is " + want);
        }
    }

    private static void due(String call, boolean got, boolean want) {
        due(call, got ? 1.0 : 0.0, want ? 1.0 : 0.0);
    }

    private static CleanRuns withRecipe() {
        CleanRuns x = new CleanRuns();
        x.recipe();
        return x;
    }

    /** Run 0 of steps of the kinds told, which are easily held: by a strength of 1, degrees of 1 and heldBy's flow. */
    private static CleanRuns runOf(int seconds, int... kinds) {
        CleanRuns x = withRecipe();
        for (int kind : kinds) {
            x.step(0, kind, seconds, 1.0, 1.0);
        }
        x.start(0, 5);
        return x;
    }

    private static CleanRuns runOfOne(int kind, double strength, double degrees) {
        CleanRuns x = withRecipe();
        x.step(0, kind, 3600, strength, degrees);
        x.start(0, 5);
        return x;
    }

    private static double heldBy(int kind) {
        return kind == DRAIN ? 0.0 : 1.0;
    }

    private static boolean isOfWater(int kind) {
        return kind == RINSE || kind == DRAIN;
    }

    private static int ticks(CleanRuns x, int times, double strength, double flow) {
        int state = x.state(0);
        for (int i = 0; i < times; i++) {
            state = x.tick(0, strength, 1.0, flow);
        }
        return state;
    }

    /** Seconds in which a CAUSTIC holds. */
    private static int held(CleanRuns x, int times) {
        return ticks(x, times, 1.0, 1.0);
    }

    /** Seconds in which a CAUSTIC does not hold. */
    private static int missed(CleanRuns x, int times) {
        return ticks(x, times, 1.0, 0.5);
    }

    private static boolean holds(CleanRuns x, double strength, double degrees, double flow) {
        long before = x.counted(0);
        x.tick(0, strength, degrees, flow);
        return x.counted(0) == before + 1;
    }

    private static void constants() {
        due("NONE", CleanRuns.NONE, -1);
        due("FULL", CleanRuns.FULL, -2);
    }

    private static void tenRecipes() {
        CleanRuns x = new CleanRuns();
        for (int i = 0; i < 10; i++) {
            due("recipe", x.recipe(), i);
        }
        due("recipe 10", x.recipe(), FULL);
        due("recipe 10 again", x.recipe(), FULL);
        due("the first recipe", x.step(0, CAUSTIC, 1, 0.0, 0.0), true);
        due("the last recipe", x.step(9, CAUSTIC, 1, 0.0, 0.0), true);
        due("start of the first", x.start(0, 1), 0);
        due("start of the last", x.start(9, 1), 1);
    }

    private static void twelveSteps() {
        CleanRuns x = withRecipe();
        x.recipe();
        for (int i = 0; i < 12; i++) {
            due("step " + i, x.step(0, CAUSTIC, 1, 0.0, 0.0), true);
        }
        due("step 12", x.step(0, CAUSTIC, 1, 0.0, 0.0), false);
        due("step 12 again", x.step(0, CAUSTIC, 1, 0.0, 0.0), false);
        due("a step of another recipe", x.step(1, CAUSTIC, 1, 0.0, 0.0), true);
        x.start(0, 1);
        due("11 steps", held(x, 11), COUNTING);
        due("the last step", x.stepOf(0), 11);
        due("12 steps", held(x, 1), DONE);
        due("the last step's record", x.record(0, 11, 3), 12);
    }

    private static void fiveKinds() {
        for (int kind = 0; kind <= 4; kind++) {
            CleanRuns x = withRecipe();
            due("kind " + kind, x.step(0, kind, 1, 1.0, 1.0), true);
            x.start(0, 1);
            due("kind " + kind + " in the record", x.record(0, 0, 0), kind);
        }
        due("kind -1", withRecipe().step(0, -1, 1, 1.0, 1.0), false);
        due("kind 5", withRecipe().step(0, 5, 1, 1.0, 1.0), false);
    }

    private static void secondsOfAStep() {
        due("0 seconds", withRecipe().step(0, CAUSTIC, 0, 1.0, 1.0), false);
        due("1 second", withRecipe().step(0, CAUSTIC, 1, 1.0, 1.0), true);
        due("3600 seconds", withRecipe().step(0, CAUSTIC, 3600, 1.0, 1.0), true);
        due("3601 seconds", withRecipe().step(0, CAUSTIC, 3601, 1.0, 1.0), false);
        due("a step of a second", held(runOf(1, CAUSTIC), 1), DONE);
        CleanRuns x = runOf(450, CAUSTIC);
        due("449 of 450 seconds", held(x, 449), COUNTING);
        due("450 of 450 seconds", held(x, 1), DONE);
    }

    private static void aStepOfTheMostSeconds() {
        CleanRuns x = runOf(3600, CAUSTIC);
        due("500 of 3600 seconds", held(x, 500), COUNTING);
        due("500 counted", x.counted(0), 500);
    }

    private static void strengthOfAStep() {
        due("strength below 0", withRecipe().step(0, CAUSTIC, 1, -TINY, 1.0), false);
        due("strength 0", withRecipe().step(0, CAUSTIC, 1, 0.0, 1.0), true);
        due("strength -0", withRecipe().step(0, CAUSTIC, 1, -0.0, 1.0), true);
        due("strength 100", withRecipe().step(0, CAUSTIC, 1, 100.0, 1.0), true);
        due("strength above 100", withRecipe().step(0, CAUSTIC, 1, Math.nextUp(100.0), 1.0), false);
        CleanRuns most = runOfOne(CAUSTIC, 100.0, 0.0);
        due("strength 100 holds", holds(most, 100.0, 0.0, 1.0), true);
        due("below 100 does not", holds(most, Math.nextDown(100.0), 0.0, 1.0), false);
        CleanRuns least = runOfOne(RINSE, 0.0, 0.0);
        due("strength 0 holds", holds(least, 0.0, 0.0, 1.0), true);
        due("above 0 does not", holds(least, TINY, 0.0, 1.0), false);
    }

    private static void degreesOfAStep() {
        due("degrees below 0", withRecipe().step(0, CAUSTIC, 1, 1.0, -TINY), false);
        due("degrees 0", withRecipe().step(0, CAUSTIC, 1, 1.0, 0.0), true);
        due("degrees -0", withRecipe().step(0, CAUSTIC, 1, 1.0, -0.0), true);
        due("degrees 150", withRecipe().step(0, CAUSTIC, 1, 1.0, 150.0), true);
        due("degrees above 150", withRecipe().step(0, CAUSTIC, 1, 1.0, Math.nextUp(150.0)), false);
        CleanRuns most = runOfOne(STERILE, 0.0, 150.0);
        due("degrees 150 hold", holds(most, 0.0, 150.0, 1.0), true);
        due("below 150 do not", holds(most, 0.0, Math.nextDown(150.0), 1.0), false);
        CleanRuns least = runOfOne(STERILE, 0.0, 0.0);
        due("degrees 0 hold", holds(least, 0.0, 0.0, 1.0), true);
        due("below 0 do not", holds(least, 0.0, -TINY, 1.0), false);
    }

    private static void stepsUntilTheFirstRun() {
        CleanRuns x = withRecipe();
        x.recipe();
        x.step(0, CAUSTIC, 1, 0.0, 0.0);
        x.step(1, CAUSTIC, 1, 0.0, 0.0);
        due("a refused start", x.start(0, 0), NONE);
        due("a step behind a refused start", x.step(0, CAUSTIC, 1, 0.0, 0.0), true);
        due("a start", x.start(0, 1), 0);
        due("a step behind a start", x.step(0, CAUSTIC, 1, 0.0, 0.0), false);
        due("a step of a recipe without a run", x.step(1, CAUSTIC, 1, 0.0, 0.0), true);
        due("the run has the two steps", held(x, 2), DONE);
        due("a step behind a done run", x.step(0, CAUSTIC, 1, 0.0, 0.0), false);
    }

    private static void thirtyRuns() {
        CleanRuns x = withRecipe();
        x.step(0, CAUSTIC, 1, 0.0, 0.0);
        x.recipe();
        x.step(1, CAUSTIC, 1, 0.0, 0.0);
        for (int i = 0; i < 30; i++) {
            due("start", x.start(0, 1 + i % 9), i);
        }
        due("start 30", x.start(0, 1), FULL);
        due("start 30 again", x.start(0, 1), FULL);
        due("start 30 of another recipe", x.start(1, 1), FULL);
        due("a step of it, which has no run", x.step(1, CAUSTIC, 1, 0.0, 0.0), true);
        due("the last run", x.tick(29, 1.0, 1.0, 1.0), DONE);
        due("its level", x.level(29), 3);
        due("start 30 behind a done run", x.start(0, 1), FULL);
        due("the first run", x.tick(0, 1.0, 1.0, 1.0), DONE);
        due("run 30", x.tick(30, 1.0, 1.0, 1.0), NONE);
    }

    private static void levelsOfAStart() {
        for (int level = 0; level <= 10; level++) {
            CleanRuns x = withRecipe();
            x.step(0, CAUSTIC, 1, 0.0, 0.0);
            boolean taken = level != 0 && level != 10;
            due("start for level " + level, x.start(0, level), taken ? 0 : NONE);
            held(x, 1);
            due("level " + level, x.level(0), taken ? level : NONE);
        }
    }

    private static void strengthOfATick() {
        CleanRuns x = runOfOne(RINSE, 100.0, 0.0);
        due("strength below 0", x.tick(0, -TINY, 1.0, 1.0), NONE);
        due("strength 0", x.tick(0, 0.0, 1.0, 1.0), COUNTING);
        due("strength -0", x.tick(0, -0.0, 1.0, 1.0), COUNTING);
        due("strength 1000", x.tick(0, 1000.0, 1.0, 1.0), COUNTING);
        due("strength above 1000", x.tick(0, Math.nextUp(1000.0), 1.0, 1.0), NONE);
        due("used by three", x.cleaner(0, 0), 3.0);
        due("counted by two", x.counted(0), 2);
    }

    private static void degreesOfATick() {
        CleanRuns x = runOfOne(STERILE, 0.0, 0.0);
        due("degrees below -50", x.tick(0, 1.0, Math.nextDown(-50.0), 1.0), NONE);
        due("degrees -50", x.tick(0, 1.0, -50.0, 1.0), COUNTING);
        due("degrees 200", x.tick(0, 1.0, 200.0, 1.0), COUNTING);
        due("degrees above 200", x.tick(0, 1.0, Math.nextUp(200.0), 1.0), NONE);
        due("used by two", x.cleaner(0, 1), 2.0);
        due("counted by one", x.counted(0), 1);
    }

    private static void flowOfATick() {
        CleanRuns x = runOfOne(DRAIN, 0.0, 0.0);
        due("flow below 0", x.tick(0, 1.0, 1.0, -TINY), NONE);
        due("flow 0", x.tick(0, 1.0, 1.0, 0.0), COUNTING);
        due("flow -0", x.tick(0, 1.0, 1.0, -0.0), COUNTING);
        due("flow 1000", x.tick(0, 1.0, 1.0, 1000.0), COUNTING);
        due("flow above 1000", x.tick(0, 1.0, 1.0, Math.nextUp(1000.0)), NONE);
        due("used by three", x.cleaner(0, 0), 1000.0);
        due("counted by two", x.counted(0), 2);
    }

    private static void rinse() {
        CleanRuns x = runOfOne(RINSE, 5.0, 90.0);
        due("RINSE at both limits", holds(x, 5.0, 90.0, 1.0), true);
        due("RINSE far inside", holds(x, 0.0, 90.0, 1000.0), true);
        due("RINSE above its strength", holds(x, Math.nextUp(5.0), 90.0, 1.0), false);
        due("RINSE below its flow", holds(x, 5.0, 90.0, Math.nextDown(1.0)), false);
        due("RINSE, cold", holds(x, 5.0, -50.0, 1.0), true);
        due("RINSE, hot", holds(x, 5.0, 200.0, 1.0), true);
    }

    private static void causticAndAcid() {
        for (int kind = CAUSTIC; kind <= ACID; kind++) {
            CleanRuns x = runOfOne(kind, 2.0, 70.0);
            due(kind + " at its limits", holds(x, 2.0, 70.0, 1.0), true);
            due(kind + " far inside", holds(x, 1000.0, 200.0, 1000.0), true);
            due(kind + " below its strength", holds(x, Math.nextDown(2.0), 70.0, 1.0), false);
            due(kind + " below its degrees", holds(x, 2.0, Math.nextDown(70.0), 1.0), false);
            due(kind + " below its flow", holds(x, 2.0, 70.0, Math.nextDown(1.0)), false);
        }
    }

    private static void sterile() {
        CleanRuns x = runOfOne(STERILE, 50.0, 120.0);
        due("STERILE at its limits", holds(x, 50.0, 120.0, 0.5), true);
        due("STERILE far inside", holds(x, 50.0, 200.0, 1000.0), true);
        due("STERILE below its degrees", holds(x, 50.0, Math.nextDown(120.0), 0.5), false);
        due("STERILE below its flow", holds(x, 50.0, 120.0, Math.nextDown(0.5)), false);
        due("STERILE, weak", holds(x, 0.0, 120.0, 0.5), true);
        due("STERILE, strong", holds(x, 1000.0, 120.0, 0.5), true);
    }

    private static void drain() {
        CleanRuns x = runOfOne(DRAIN, 50.0, 50.0);
        due("DRAIN at its flow", holds(x, 50.0, 50.0, 0.125), true);
        due("DRAIN without flow", holds(x, 50.0, 50.0, 0.0), true);
        due("DRAIN above its flow", holds(x, 50.0, 50.0, Math.nextUp(0.125)), false);
        due("DRAIN, weak and cold", holds(x, 0.0, -50.0, 0.125), true);
        due("DRAIN, strong and hot", holds(x, 1000.0, 200.0, 0.125), true);
    }

    /** Steps whose own limits nothing measured can break: flow alone is left. */
    private static void stepsWithoutLimits() {
        for (int kind = CAUSTIC; kind <= STERILE; kind++) {
            CleanRuns x = runOfOne(kind, 0.0, 0.0);
            double least = kind == STERILE ? 0.5 : 1.0;
            due("free " + kind, holds(x, 0.0, 0.0, least), true);
            due("free " + kind + ", cold", holds(x, 0.0, -TINY, least), false);
            due("free " + kind + ", slow", holds(x, 0.0, 0.0, Math.nextDown(least)), false);
        }
    }

    private static void aRunBegins() {
        CleanRuns x = runOf(2, ACID, CAUSTIC);
        due("begun: state", x.state(0), COUNTING);
        due("begun: step", x.stepOf(0), 0);
        due("begun: counted", x.counted(0), 0);
        due("begun: failed", x.failed(0), 0);
        due("begun: level", x.level(0), 0);
        due("begun: water", x.cleaner(0, 0), 0.0);
        due("begun: out", x.cleaner(0, 1), 0.0);
        due("begun: back", x.cleaner(0, 2), 0.0);
        due("begun: left", x.cleaner(0, 3), 1000.0);
        due("begun: kind", x.record(0, 0, 0), ACID);
        due("begun: failures", x.record(0, 0, 1), 0);
        due("begun: second", x.record(0, 0, 2), 0);
        due("begun: end", x.record(0, 0, 3), NONE);
    }

    private static void theFirstStepNeverWaits() {
        CleanRuns x = runOf(1, CAUSTIC, CAUSTIC);
        due("interface before the first second", x.interface2(0, 100.0, 600), true);
        due("the first step counts", x.state(0), COUNTING);
        due("the first step ends, the second waits", held(x, 1), WAITING);
        CleanRuns failing = runOf(2, CAUSTIC);
        failing.interface2(0, 100.0, 600);
        due("nor behind a failure", missed(failing, 30), COUNTING);
        due("it goes on counting", held(failing, 2), DONE);
    }

    private static void theInterfaceAsTheStepAheadEnds() {
        CleanRuns inTime = runOf(2, CAUSTIC, CAUSTIC);
        held(inTime, 1);
        due("interface before the last second", inTime.interface2(0, 50.0, 1), true);
        due("waits", held(inTime, 1), WAITING);
        CleanRuns late = runOf(2, CAUSTIC, CAUSTIC, CAUSTIC);
        due("counts at once", held(late, 2), COUNTING);
        due("interface behind the last second", late.interface2(0, 50.0, 1), true);
        due("is too late", late.state(0), COUNTING);
        due("counts on", held(late, 1), COUNTING);
        due("counted one", late.counted(0), 1);
        due("but the step behind it waits", held(late, 1), WAITING);
        due("it is step 2", late.stepOf(0), 2);
    }

    private static void theValueOfTheInterface() {
        for (int kind = RINSE; kind <= DRAIN; kind++) {
            CleanRuns x = runOf(1, CAUSTIC, kind);
            x.interface2(0, 3.0, 3);
            double outside = isOfWater(kind) ? Math.nextUp(3.0) : Math.nextDown(3.0);
            double inside = isOfWater(kind) ? Math.nextDown(3.0) : Math.nextUp(3.0);
            double farInside = isOfWater(kind) ? 0.0 : 1000.0;
            due(kind + " waits", held(x, 1), WAITING);
            due(kind + " outside", ticks(x, 9, outside, 1.0), WAITING);
            due(kind + " at the value", ticks(x, 1, 3.0, 1.0), WAITING);
            due(kind + " inside", ticks(x, 1, inside, 1.0), WAITING);
            due(kind + " far inside", ticks(x, 1, farInside, 1.0), COUNTING);
        }
    }

    private static void valuesOfAnInterface() {
        CleanRuns x = runOf(1, CAUSTIC, CAUSTIC, RINSE, CAUSTIC);
        due("at below 0", x.interface2(0, -TINY, 1), false);
        due("at above 100", x.interface2(0, Math.nextUp(100.0), 1), false);
        due("no interface yet", held(x, 1), COUNTING);
        due("at 0", x.interface2(0, 0.0, 1), true);
        due("RINSE waits", held(x, 1), WAITING);
        due("above 0", ticks(x, 1, TINY, 1.0), WAITING);
        due("0", ticks(x, 1, 0.0, 1.0), COUNTING);
        due("at 100", x.interface2(0, 100.0, 1), true);
        due("CAUSTIC waits", held(x, 1), WAITING);
        due("below 100", ticks(x, 1, Math.nextDown(100.0), 1.0), WAITING);
        due("100", ticks(x, 1, 100.0, 1.0), COUNTING);
        due("at -0", x.interface2(0, -0.0, 1), true);
    }

    private static void secondsPassedAgain() {
        CleanRuns x = runOf(2, CAUSTIC, CAUSTIC);
        x.interface2(0, 50.0, 3);
        held(x, 2);
        due("two of three", ticks(x, 2, 50.0, 1.0), WAITING);
        due("0 again", ticks(x, 1, 49.0, 1.0), WAITING);
        due("two of three again", ticks(x, 2, 50.0, 1.0), WAITING);
        due("three", ticks(x, 1, 50.0, 1.0), COUNTING);
        due("none counted as it waited", x.counted(0), 0);
        due("the next second counts", held(x, 1), COUNTING);
        due("one counted", x.counted(0), 1);
        due("below the value it counts on", held(x, 1), DONE);
    }

    private static void holdsOfAnInterface() {
        CleanRuns x = runOf(1, CAUSTIC, CAUSTIC);
        due("hold 0", x.interface2(0, 0.0, 0), false);
        due("hold 601", x.interface2(0, 0.0, 601), false);
        due("hold 1", x.interface2(0, 0.0, 1), true);
        due("waits a second at least", held(x, 1), WAITING);
        due("and no more", held(x, 1), COUNTING);
        CleanRuns most = runOf(1, CAUSTIC, CAUSTIC);
        due("hold 600", most.interface2(0, 0.0, 600), true);
        held(most, 1);
        due("400 of 600", held(most, 400), WAITING);
        CleanRuns many = runOf(1, CAUSTIC, CAUSTIC);
        many.interface2(0, 0.0, 400);
        held(many, 1);
        due("399 of 400", held(many, 399), WAITING);
        due("400 of 400", held(many, 1), COUNTING);
    }

    private static CleanRuns fourSecondsPassed() {
        CleanRuns x = runOf(1, CAUSTIC, CAUSTIC, CAUSTIC);
        x.interface2(0, 50.0, 10);
        held(x, 1);
        ticks(x, 4, 50.0, 1.0);
        return x;
    }

    private static void aNewHold() {
        for (int hold = 1; hold <= 5; hold++) {
            CleanRuns x = fourSecondsPassed();
            due("hold " + hold, x.interface2(0, 60.0, hold), true);
            due("hold " + hold + " is not looked at now", x.state(0), WAITING);
            due("hold " + hold + " is met in the next second", ticks(x, 1, 60.0, 1.0), COUNTING);
            CleanRuns falls = fourSecondsPassed();
            falls.interface2(0, 60.0, hold);
            due("hold " + hold + ", 0 again", ticks(falls, 1, 50.0, 1.0), WAITING);
            due("hold " + hold + ", anew", ticks(falls, hold - 1, 60.0, 1.0), WAITING);
            due("hold " + hold + ", met anew", ticks(falls, 1, 60.0, 1.0), COUNTING);
        }
        CleanRuns longer = fourSecondsPassed();
        longer.interface2(0, 50.0, 6);
        due("five of six", ticks(longer, 1, 50.0, 1.0), WAITING);
        due("six of six", ticks(longer, 1, 50.0, 1.0), COUNTING);
        due("the next step begins with none passed", held(longer, 1), WAITING);
        due("five of the next", ticks(longer, 5, 50.0, 1.0), WAITING);
        due("six of the next", ticks(longer, 1, 50.0, 1.0), COUNTING);
    }

    private static void aWaitIsNoMiss() {
        CleanRuns x = runOf(1, CAUSTIC, CAUSTIC);
        x.interface2(0, 50.0, 1);
        held(x, 1);
        due("waits for long", missed(x, 200), WAITING);
        due("fails not", x.failed(0), 0);
        due("waits no more", ticks(x, 1, 50.0, 0.0), COUNTING);
        due("29 missed", missed(x, 29), COUNTING);
        due("29 missed: no failure", x.failed(0), 0);
        due("30 missed", missed(x, 1), COUNTING);
        due("30 missed: a failure", x.failed(0), 1);
    }

    private static void thirtyMissesInARow() {
        CleanRuns x = runOf(9, CAUSTIC);
        missed(x, 29);
        due("29 misses", x.failed(0), 0);
        held(x, 1);
        missed(x, 29);
        due("29 misses, not 58 in a row", x.failed(0), 0);
        missed(x, 1);
        due("30 misses", x.failed(0), 1);
        for (int kind = RINSE; kind <= DRAIN; kind++) {
            CleanRuns y = runOfOne(kind, 0.0, 150.0);
            ticks(y, 29, 1.0, 0.25);
            due(kind + ": 29 misses", y.failed(0), 0);
            ticks(y, 1, 1.0, 0.25);
            due(kind + ": 30 misses", y.failed(0), 1);
        }
    }

    private static void aFailureTakesWhatWasCounted() {
        CleanRuns x = runOf(4, CAUSTIC);
        held(x, 3);
        missed(x, 29);
        due("all but one counted", x.counted(0), 3);
        due("goes on counting", missed(x, 1), COUNTING);
        due("none counted", x.counted(0), 0);
        due("stays at its step", x.stepOf(0), 0);
        due("three of four", held(x, 3), COUNTING);
        due("four of four", held(x, 1), DONE);
    }

    private static void aFailureTakesTheMisses() {
        CleanRuns x = runOf(4, CAUSTIC);
        missed(x, 59);
        due("59 misses", x.failed(0), 1);
        missed(x, 1);
        due("60 misses", x.failed(0), 2);
        due("89 misses", missed(x, 29), COUNTING);
        due("90 misses", missed(x, 1), FAILED);
    }

    private static void threeFailuresOfAStep() {
        CleanRuns x = runOf(4, CAUSTIC);
        for (int failures = 1; failures <= 3; failures++) {
            held(x, 3);
            due("failure " + failures, missed(x, 30), failures < 3 ? COUNTING : FAILED);
            due("failed " + failures, x.failed(0), failures);
            due("record " + failures, x.record(0, 0, 1), failures);
        }
        due("counted of a failed step", x.counted(0), 0);
        CleanRuns last = runOf(1, CAUSTIC, CAUSTIC);
        held(last, 1);
        due("failures of the last step", missed(last, 90), FAILED);
        due("a failed run is not done", last.level(0), 0);
    }

    private static void failuresOfOtherSteps() {
        CleanRuns x = runOf(1, CAUSTIC, CAUSTIC, CAUSTIC);
        missed(x, 60);
        missed(x, 29);
        held(x, 1);
        missed(x, 29);
        due("misses of the step ahead are its own", x.failed(0), 2);
        missed(x, 1);
        due("failures of the step ahead are its own", x.state(0), COUNTING);
        missed(x, 30);
        due("four failures of two steps", x.failed(0), 4);
        held(x, 1);
        due("step 2", x.stepOf(0), 2);
        due("a third failure of one step", missed(x, 90), FAILED);
        due("seven failures", x.failed(0), 7);
    }

    private static void used(String of, CleanRuns x, double water, double out, double back) {
        due(of + ": water", x.cleaner(0, 0), water);
        due(of + ": out", x.cleaner(0, 1), out);
        due(of + ": back", x.cleaner(0, 2), back);
        due(of + ": left", x.cleaner(0, 3), 1000.0 - out + back);
    }

    private static void usedAsAStepEnds() {
        CleanRuns x = runOf(1, CAUSTIC, RINSE, ACID);
        ticks(x, 1, 1.0, 2.0);
        used("the second that ends CAUSTIC", x, 0.0, 2.0, 2.0);
        ticks(x, 1, 1.0, 4.0);
        used("the second that ends RINSE", x, 4.0, 2.0, 2.0);
        due("done", ticks(x, 1, 1.0, 8.0), DONE);
        used("the second that ends the run", x, 4.0, 10.0, 10.0);
    }

    private static void usedAsAWaitEnds() {
        for (int kind = RINSE; kind <= DRAIN; kind++) {
            CleanRuns x = runOf(9, CAUSTIC, kind);
            x.interface2(0, 50.0, 2);
            held(x, 9);
            used(kind + " has begun", x, 0.0, 9.0, 9.0);
            double water = isOfWater(kind) ? 1.0 : 0.0;
            due(kind + " waits", ticks(x, 1, 50.0, 2.0), WAITING);
            used(kind + " waits", x, 2.0 * water, 11.0 - 2.0 * water, 9.0);
            due(kind + " waits no more", ticks(x, 1, 50.0, 4.0), COUNTING);
            used(kind + " waits no more", x, 6.0 * water, 15.0 - 6.0 * water, 9.0);
            ticks(x, 1, 1.0, heldBy(kind));
            double one = heldBy(kind);
            used(kind + " counts", x, (6.0 + one) * water, 15.0 + one - (6.0 + one) * water, 10.0 - water);
        }
    }

    private static void usedAsAStepFails() {
        CleanRuns x = runOf(9, CAUSTIC);
        ticks(x, 29, 0.0, 2.0);
        used("29 missed", x, 0.0, 58.0, 29.0);
        ticks(x, 1, 0.0, 2.0);
        used("30 missed", x, 0.0, 60.0, 30.0);
        due("failed", ticks(x, 60, 0.0, 2.0), FAILED);
        used("90 missed", x, 0.0, 180.0, 90.0);
        CleanRuns water = runOf(9, RINSE);
        ticks(water, 30, 2.0, 2.0);
        used("30 missed in RINSE", water, 60.0, 0.0, 0.0);
    }

    private static void usedOfARunThatIsOver() {
        CleanRuns failed = runOf(9, CAUSTIC);
        ticks(failed, 91, 0.0, 2.0);
        used("failed", failed, 0.0, 180.0, 90.0);
        CleanRuns done = runOf(1, CAUSTIC);
        held(done, 2);
        used("done", done, 0.0, 1.0, 1.0);
        CleanRuns broken = runOf(9, RINSE);
        held(broken, 3);
        broken.breakOff(0);
        held(broken, 1);
        used("broken", broken, 3.0, 0.0, 0.0);
    }

    private static void usedAtMost() {
        CleanRuns x = runOf(1, CAUSTIC, CAUSTIC);
        x.interface2(0, 100.0, 1);
        held(x, 1);
        ticks(x, 400, 0.0, 1000.0);
        used("more out than 1000", x, 0.0, 400001.0, 1.0);
        due("what = -1", x.cleaner(0, -1), -1.0);
        due("what = 4", x.cleaner(0, 4), -1.0);
        due("run -1", x.cleaner(-1, 0), -1.0);
        due("run 1", x.cleaner(1, 0), -1.0);
    }

    /** Flows for which 1000 + back - out and 1000 - (out - back) are other doubles than 1000 - out + back. */
    private static void usedInTheOrderTold() {
        CleanRuns x = runOf(9, CAUSTIC);
        ticks(x, 1, 1.0, 28.4);
        ticks(x, 1, 0.0, 14.9);
        used("in order", x, 0.0, 28.4 + 14.9, 28.4 + 14.9 / 2.0);
        due("left in order", x.cleaner(0, 3), 992.5500000000001);
    }

    private static void stepOfARunThatIsOver() {
        CleanRuns done = runOf(1, CAUSTIC, CAUSTIC);
        held(done, 1);
        due("the last step", done.stepOf(0), 1);
        due("done", held(done, 1), DONE);
        due("the last step of a done run", done.stepOf(0), 1);
        CleanRuns failed = runOf(1, CAUSTIC, CAUSTIC, CAUSTIC);
        held(failed, 1);
        due("failed", missed(failed, 90), FAILED);
        due("the last step of a failed run", failed.stepOf(0), 1);
        CleanRuns broken = runOf(1, CAUSTIC, CAUSTIC, CAUSTIC);
        broken.interface2(0, 50.0, 1);
        held(broken, 1);
        broken.breakOff(0);
        due("the last step of a broken run, which waited", broken.stepOf(0), 1);
        CleanRuns atOnce = runOf(1, CAUSTIC);
        atOnce.breakOff(0);
        due("the step of a run that is broken at once", atOnce.stepOf(0), 0);
    }

    private static void countedAtTheEdges() {
        CleanRuns x = runOf(2, CAUSTIC, CAUSTIC, CAUSTIC);
        held(x, 1);
        due("one of two", x.counted(0), 1);
        held(x, 1);
        due("none of the next step", x.counted(0), 0);
        x.interface2(0, 50.0, 1);
        held(x, 2);
        due("none as it waits", x.counted(0), 0);
        ticks(x, 1, 50.0, 1.0);
        due("none as its wait ends", x.counted(0), 0);
        held(x, 1);
        due("one behind its wait", x.counted(0), 1);
        x.breakOff(0);
        due("one of a broken run", x.counted(0), 1);
        CleanRuns done = runOf(2, CAUSTIC);
        held(done, 2);
        due("two of a done run", done.counted(0), 2);
    }

    private static void failedAtTheEdges() {
        CleanRuns x = runOf(1, CAUSTIC);
        due("never failed", x.failed(0), 0);
        missed(x, 30);
        held(x, 1);
        due("failed once, and done", x.failed(0), 1);
        CleanRuns broken = runOf(1, CAUSTIC);
        missed(broken, 29);
        broken.breakOff(0);
        missed(broken, 1);
        due("broken before it failed", broken.failed(0), 0);
    }

    private static void levelOfEachState() {
        CleanRuns x = runOf(1, CAUSTIC, CAUSTIC);
        due("level of a counting run", x.level(0), 0);
        x.interface2(0, 1.0, 1);
        held(x, 1);
        due("level of a waiting run", x.level(0), 0);
        held(x, 2);
        due("level of a done run", x.level(0), 5);
        CleanRuns failed = runOf(1, CAUSTIC);
        due("failed", missed(failed, 90), FAILED);
        due("level of a failed run", failed.level(0), 0);
        CleanRuns broken = runOf(1, CAUSTIC);
        broken.breakOff(0);
        due("level of a broken run", broken.level(0), 0);
        due("level of no run", broken.level(1), NONE);
    }

    private static void breakOffOfEachState() {
        CleanRuns counting = runOf(1, CAUSTIC, CAUSTIC);
        due("breakOff at once", counting.breakOff(0), true);
        due("broken", counting.state(0), BROKEN);
        due("breakOff of a broken run", counting.breakOff(0), false);
        CleanRuns waiting = runOf(1, CAUSTIC, CAUSTIC);
        waiting.interface2(0, 50.0, 1);
        held(waiting, 1);
        due("breakOff of a waiting run", waiting.breakOff(0), true);
        due("a broken run waits no more", ticks(waiting, 1, 50.0, 1.0), BROKEN);
        CleanRuns last = runOf(2, CAUSTIC);
        held(last, 1);
        due("breakOff before the last second", last.breakOff(0), true);
        due("a broken run is never done", held(last, 1), BROKEN);
        CleanRuns done = runOf(1, CAUSTIC);
        held(done, 1);
        due("breakOff of a done run", done.breakOff(0), false);
        CleanRuns failed = runOf(1, CAUSTIC);
        missed(failed, 89);
        due("breakOff before the last failure", failed.breakOff(0), true);
        CleanRuns behind = runOf(1, CAUSTIC);
        missed(behind, 90);
        due("breakOff of a failed run", behind.breakOff(0), false);
    }

    private static void record(CleanRuns x, int k, int kind, int failures, int begun, int end) {
        due("record " + k + ": kind", x.record(0, k, 0), kind);
        due("record " + k + ": failures", x.record(0, k, 1), failures);
        due("record " + k + ": begun", x.record(0, k, 2), begun);
        due("record " + k + ": end", x.record(0, k, 3), end);
        due("record " + k + ": what = -1", x.record(0, k, -1), NONE);
        due("record " + k + ": what = 4", x.record(0, k, 4), NONE);
    }

    private static void recordOfTheFirstAndLastStep() {
        CleanRuns x = runOf(2, CAUSTIC, RINSE, ACID);
        record(x, -1, NONE, NONE, NONE, NONE);
        record(x, 0, CAUSTIC, 0, 0, NONE);
        held(x, 6);
        record(x, 0, CAUSTIC, 0, 0, 2);
        record(x, 1, RINSE, 0, 2, 4);
        record(x, 2, ACID, 0, 4, 6);
        record(x, 3, NONE, NONE, NONE, NONE);
        record(x, 12, NONE, NONE, NONE, NONE);
    }

    private static void recordOfAStepNotBegun() {
        CleanRuns x = runOf(2, CAUSTIC, RINSE);
        held(x, 1);
        record(x, 1, NONE, NONE, NONE, NONE);
        held(x, 1);
        record(x, 1, RINSE, 0, 2, NONE);
    }

    private static void recordOfAStepThatEnds() {
        CleanRuns x = runOf(2, CAUSTIC, RINSE, ACID);
        x.interface2(0, 1.0, 3);
        held(x, 1);
        record(x, 0, CAUSTIC, 0, 0, NONE);
        held(x, 1);
        record(x, 0, CAUSTIC, 0, 0, 2);
        record(x, 1, RINSE, 0, 2, NONE);
        held(x, 3);
        record(x, 1, RINSE, 0, 2, NONE);
        missed(x, 30);
        record(x, 1, RINSE, 1, 2, NONE);
        held(x, 1);
        record(x, 1, RINSE, 1, 2, NONE);
        held(x, 1);
        record(x, 1, RINSE, 1, 2, 37);
        record(x, 2, ACID, 0, 37, NONE);
    }

    private static void recordOfARunThatEnds() {
        CleanRuns failed = runOf(1, CAUSTIC, ACID, RINSE);
        held(failed, 1);
        missed(failed, 89);
        record(failed, 1, ACID, 2, 1, NONE);
        missed(failed, 1);
        record(failed, 1, ACID, 3, 1, 91);
        missed(failed, 1);
        record(failed, 1, ACID, 3, 1, 91);
        record(failed, 2, NONE, NONE, NONE, NONE);
        CleanRuns atOnce = runOf(1, CAUSTIC);
        atOnce.breakOff(0);
        record(atOnce, 0, CAUSTIC, 0, 0, 0);
        CleanRuns waiting = runOf(1, CAUSTIC, ACID);
        waiting.interface2(0, 50.0, 9);
        held(waiting, 1);
        waiting.breakOff(0);
        held(waiting, 1);
        record(waiting, 0, CAUSTIC, 0, 0, 1);
        record(waiting, 1, ACID, 0, 1, 1);
    }

    private static void fiveStates() {
        due("states of a new object", new CleanRuns().states(), 5);
        due("states beside a run", runOf(1, CAUSTIC).states(), 5);
    }

    /** The 512th call of an object is answered as the document says. */
    private static void fiveHundredAndTwelveCalls() {
        CleanRuns x = withRecipe();
        x.step(0, CAUSTIC, 508, 0.0, 0.0);
        x.start(0, 9);
        int state = NONE;
        for (int i = 0; i < 507; i++) {
            state = x.tick(0, 1.0, 1.0, 1.0);
        }
        due("the 510th call", state, COUNTING);
        due("the 511th call", x.tick(0, 1.0, 1.0, 1.0), DONE);
        due("the 512th call", x.record(0, 0, 3), 508);
    }
}
