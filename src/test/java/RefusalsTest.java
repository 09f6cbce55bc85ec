import java.util.ArrayList;
import java.util.List;
import java.util.function.Supplier;
import java.util.function.ToDoubleFunction;

/** Each reason for which the document refuses a call, alone; and that the refused call changes nothing. */
public final class RefusalsTest {
    private static final int CAUSTIC = 1;
    private static final int ACID = 2;
    private static final int WAITING = 0;
    private static final int COUNTING = 1;
    private static final int FAILED = 2;
    private static final int DONE = 3;
    private static final int BROKEN = 4;
    private static final int NONE = -1;
    private static final int FULL = -2;
    private static final double FALSE = 0.0;

    private static final int COURSES = 6;
    private static final double TINY = Double.MIN_VALUE;
    /** What no bounds of the document take, beside the nearest values outside them. */
    private static final double[] FAR = {-1e300, 1e300, 1.0 / 0.0, -1.0 / 0.0, Double.NaN};

    private static int refusals = 0;
    private static int wrong = 0;

    public static void main(String[] args) {
        recipeWhenFull();
        stepOfNoSuchRecipe();
        stepOfABegunRecipe();
        stepBehindTwelve();
        stepOfNoSuchKind();
        stepOfWrongSeconds();
        stepOfWrongStrength();
        stepOfWrongDegrees();
        startOfNoSuchRecipe();
        startWithoutSteps();
        startForAnotherLevel();
        startWhenFull();
        tickOfNoSuchRun();
        tickOfWrongStrength();
        tickOfWrongDegrees();
        tickOfWrongFlow();
        tickOfARunThatIsOver();
        interfaceOfNoSuchRun();
        interfaceOfARunThatIsOver();
        interfaceAtAWrongValue();
        interfaceOfAWrongHold();
        breakOffOfNoSuchRun();
        breakOffOfARunThatIsOver();
        questionsOfNoSuchRun();
        questionsOfNoSuchStepOrWhat();
        questionsThatAreAnswered();
        System.out.println(refusals + " refusals, " + wrong + " of them not as due");
        if (wrong != 0) {
            System.exit(1);
        }
    }

    /** The call answers as due, and whatever is asked behind it, its object answers as one that was spared it. */
    private static void due(String name, Supplier<CleanRuns> scene, double want, ToDoubleFunction<CleanRuns> call) {
        refusals++;
        for (int course = 0; course < COURSES; course++) {
            CleanRuns called = scene.get();
            double got = call.applyAsDouble(called);
            if (got != want) {
                wrong++;
                System.out.println(name + " answered " + got + ", due is " + want);
                return;
            }
            if (!answersIn(course, called).equals(answersIn(course, scene.get()))) {
                wrong++;
                System.out.println(name + " changed something, as course " + course + " tells");
                return;
            }
        }
    }

    /** Courses of calls that bring out each part of the object's state: one is not enough, since calls change it. */
    private static List<Double> answersIn(int course, CleanRuns x) {
        List<Double> answers = new ArrayList<>();
        switch (course) {
            case 0:
                break;
            case 1:
                tickAll(x, 20, 50.0, 1.0, answers);
                break;
            case 2:
                tickAll(x, 40, 0.0, 0.25, answers);
                break;
            case 3:
                tickAll(x, 20, 49.0, 1.0, answers);
                break;
            case 4:
                makeAll(x, answers);
                break;
            default:
                startBoth(x, answers);
        }
        for (int run = 0; run < 3; run++) {
            look(x, run, answers);
        }
        return answers;
    }

    private static void tickAll(CleanRuns x, int times, double strength, double flow, List<Double> answers) {
        for (int i = 0; i < times; i++) {
            for (int run = 0; run < 3; run++) {
                answers.add((double) x.tick(run, strength, 100.0, flow));
            }
            answers.add((double) x.stepOf(0));
            answers.add((double) x.failed(0));
        }
    }

    private static void makeAll(CleanRuns x, List<Double> answers) {
        for (int recipe = 0; recipe < 10; recipe++) {
            for (int i = 0; i < 13; i++) {
                answers.add(x.step(recipe, CAUSTIC, 1, 0.0, 0.0) ? 1.0 : 0.0);
            }
        }
        for (int i = 0; i < 11; i++) {
            answers.add((double) x.recipe());
        }
        for (int i = 0; i < 31; i++) {
            answers.add((double) x.start(i % 10, 1));
        }
    }

    private static void startBoth(CleanRuns x, List<Double> answers) {
        answers.add((double) x.start(0, 2));
        answers.add((double) x.start(1, 3));
        tickAll(x, 30, 50.0, 1.0, answers);
    }

    private static void look(CleanRuns x, int run, List<Double> answers) {
        answers.add((double) x.state(run));
        answers.add((double) x.stepOf(run));
        answers.add((double) x.counted(run));
        answers.add((double) x.failed(run));
        answers.add((double) x.level(run));
        for (int what = 0; what < 4; what++) {
            answers.add(x.cleaner(run, what));
            for (int k = 0; k < 4; k++) {
                answers.add((double) x.record(run, k, what));
            }
        }
    }

    private static CleanRuns empty() {
        return new CleanRuns();
    }

    /** Recipe 0 has no steps yet, recipe 1 has three; no run was begun. */
    private static CleanRuns unbegun() {
        CleanRuns x = new CleanRuns();
        x.recipe();
        x.recipe();
        x.step(1, CAUSTIC, 3, 2.0, 20.0);
        x.step(1, ACID, 4, 3.0, 30.0);
        x.step(1, CAUSTIC, 5, 4.0, 40.0);
        return x;
    }

    /** Run 0, of recipe 1, has an interface, has counted one second and missed five. */
    private static CleanRuns counting() {
        CleanRuns x = unbegun();
        x.start(1, 6);
        x.interface2(0, 50.0, 5);
        x.tick(0, 2.0, 20.0, 1.0);
        ticks(x, 5, 0.0);
        return sceneIn(x, COUNTING);
    }

    /** Run 0 waits at its second step, with two of the five seconds of its interface. */
    private static CleanRuns waiting() {
        CleanRuns x = counting();
        ticks(x, 2, 2.0);
        ticks(x, 2, 50.0);
        return sceneIn(x, WAITING);
    }

    private static CleanRuns failed() {
        CleanRuns x = counting();
        ticks(x, 85, 0.0);
        return sceneIn(x, FAILED);
    }

    private static CleanRuns done() {
        CleanRuns x = counting();
        ticks(x, 21, 50.0);
        return sceneIn(x, DONE);
    }

    private static CleanRuns broken() {
        CleanRuns x = waiting();
        x.breakOff(0);
        return sceneIn(x, BROKEN);
    }

    private static CleanRuns fullOfRecipes() {
        CleanRuns x = unbegun();
        for (int recipe = 2; recipe < 10; recipe++) {
            x.recipe();
            x.step(recipe, CAUSTIC, 1, 0.0, 0.0);
        }
        return x;
    }

    private static CleanRuns fullOfSteps() {
        CleanRuns x = unbegun();
        for (int i = 3; i < 12; i++) {
            x.step(1, CAUSTIC, 1, 0.0, 0.0);
        }
        return x;
    }

    /** All runs are of recipe 1; recipe 0 has a step, but no run. */
    private static CleanRuns fullOfRuns() {
        CleanRuns x = counting();
        x.step(0, CAUSTIC, 1, 0.0, 0.0);
        for (int i = 1; i < 30; i++) {
            x.start(1, 4);
        }
        return x;
    }

    private static void ticks(CleanRuns x, int times, double strength) {
        for (int i = 0; i < times; i++) {
            x.tick(0, strength, 100.0, 1.0);
        }
    }

    private static CleanRuns sceneIn(CleanRuns x, int state) {
        if (x.state(0) != state) {
            throw new IllegalStateException("the scene is in state " + x.state(0) + ", not in " + state);
        }
        return x;
    }

    private static List<Supplier<CleanRuns>> goingOn() {
        return List.of(RefusalsTest::counting, RefusalsTest::waiting);
    }

    private static List<Supplier<CleanRuns>> over() {
        return List.of(RefusalsTest::failed, RefusalsTest::done, RefusalsTest::broken);
    }

    /** No numbers of an object with as many as told: both neighbours of the right ones, and the ends of int. */
    private static int[] noneOf(int count) {
        return new int[] {-1, count, count + 1, 1000, Integer.MIN_VALUE, Integer.MAX_VALUE};
    }

    private static double[] outside(double least, double most) {
        double[] all = new double[FAR.length + 2];
        System.arraycopy(FAR, 0, all, 2, FAR.length);
        all[0] = least == 0.0 ? -TINY : Math.nextDown(least);
        all[1] = Math.nextUp(most);
        return all;
    }

    private static double as(boolean answer) {
        return answer ? 1.0 : 0.0;
    }

    private static void recipeWhenFull() {
        due("recipe behind 10", RefusalsTest::fullOfRecipes, FULL, x -> x.recipe());
    }

    private static void stepOfNoSuchRecipe() {
        due("the first step of all", RefusalsTest::empty, FALSE, x -> as(x.step(0, CAUSTIC, 1, 0.0, 0.0)));
        for (int recipe : noneOf(2)) {
            due("step of recipe " + recipe, RefusalsTest::unbegun, FALSE,
                x -> as(x.step(recipe, CAUSTIC, 1, 0.0, 0.0)));
        }
        for (int recipe : noneOf(10)) {
            due("step of recipe " + recipe + " of 10", RefusalsTest::fullOfRecipes, FALSE,
                x -> as(x.step(recipe, CAUSTIC, 1, 0.0, 0.0)));
        }
    }

    private static void stepOfABegunRecipe() {
        for (Supplier<CleanRuns> scene : goingOn()) {
            due("step of a recipe with a run", scene, FALSE, x -> as(x.step(1, CAUSTIC, 1, 0.0, 0.0)));
        }
        for (Supplier<CleanRuns> scene : over()) {
            due("step of a recipe with a run that is over", scene, FALSE,
                x -> as(x.step(1, CAUSTIC, 1, 0.0, 0.0)));
        }
    }

    private static void stepBehindTwelve() {
        due("step 13", RefusalsTest::fullOfSteps, FALSE, x -> as(x.step(1, CAUSTIC, 1, 0.0, 0.0)));
    }

    private static void stepOfNoSuchKind() {
        for (int kind : noneOf(5)) {
            due("step of kind " + kind, RefusalsTest::unbegun, FALSE, x -> as(x.step(1, kind, 1, 0.0, 0.0)));
            due("first step of kind " + kind, RefusalsTest::unbegun, FALSE, x -> as(x.step(0, kind, 1, 0.0, 0.0)));
        }
    }

    private static void stepOfWrongSeconds() {
        for (int seconds : new int[] {0, 3601, -1, -3600, Integer.MIN_VALUE, Integer.MAX_VALUE}) {
            due("step of seconds " + seconds, RefusalsTest::unbegun, FALSE,
                x -> as(x.step(1, CAUSTIC, seconds, 0.0, 0.0)));
        }
    }

    private static void stepOfWrongStrength() {
        for (double strength : outside(0.0, 100.0)) {
            for (int kind = 0; kind < 5; kind++) {
                int each = kind;
                due("step of kind " + kind + " and strength " + strength, RefusalsTest::unbegun, FALSE,
                    x -> as(x.step(1, each, 1, strength, 0.0)));
            }
        }
    }

    private static void stepOfWrongDegrees() {
        for (double degrees : outside(0.0, 150.0)) {
            for (int kind = 0; kind < 5; kind++) {
                int each = kind;
                due("step of kind " + kind + " and degrees " + degrees, RefusalsTest::unbegun, FALSE,
                    x -> as(x.step(1, each, 1, 0.0, degrees)));
            }
        }
    }

    private static void startOfNoSuchRecipe() {
        due("the first start of all", RefusalsTest::empty, NONE, x -> x.start(0, 1));
        for (int recipe : noneOf(2)) {
            due("start of recipe " + recipe, RefusalsTest::unbegun, NONE, x -> x.start(recipe, 1));
            due("start of recipe " + recipe + " behind a run", RefusalsTest::counting, NONE, x -> x.start(recipe, 1));
        }
        for (int recipe : noneOf(10)) {
            due("start of recipe " + recipe + " of 10", RefusalsTest::fullOfRecipes, NONE, x -> x.start(recipe, 1));
        }
    }

    private static void startWithoutSteps() {
        due("start without steps", RefusalsTest::unbegun, NONE, x -> x.start(0, 1));
        due("start without steps behind a run", RefusalsTest::counting, NONE, x -> x.start(0, 1));
    }

    private static void startForAnotherLevel() {
        for (int level : new int[] {0, 10, -1, -9, 1000, Integer.MIN_VALUE, Integer.MAX_VALUE}) {
            due("start for level " + level, RefusalsTest::unbegun, NONE, x -> x.start(1, level));
            due("start for level " + level + " behind a run", RefusalsTest::counting, NONE, x -> x.start(1, level));
        }
    }

    /** A recipe that was to be started too late has no run: it goes on taking steps, as a course tells. */
    private static void startWhenFull() {
        due("start behind 30", RefusalsTest::fullOfRuns, FULL, x -> x.start(1, 1));
        due("start behind 30, of a recipe without a run", RefusalsTest::fullOfRuns, FULL, x -> x.start(0, 1));
    }

    private static void tickOfNoSuchRun() {
        due("the first tick of all", RefusalsTest::empty, NONE, x -> x.tick(0, 1.0, 1.0, 1.0));
        due("tick without a run", RefusalsTest::unbegun, NONE, x -> x.tick(0, 1.0, 1.0, 1.0));
        for (int run : noneOf(1)) {
            due("tick of run " + run, RefusalsTest::counting, NONE, x -> x.tick(run, 50.0, 100.0, 1.0));
        }
        for (int run : noneOf(30)) {
            due("tick of run " + run + " of 30", RefusalsTest::fullOfRuns, NONE, x -> x.tick(run, 50.0, 100.0, 1.0));
        }
    }

    private static void tickOfWrongStrength() {
        for (double strength : outside(0.0, 1000.0)) {
            for (Supplier<CleanRuns> scene : goingOn()) {
                due("tick with strength " + strength, scene, NONE, x -> x.tick(0, strength, 100.0, 1.0));
            }
            for (Supplier<CleanRuns> scene : over()) {
                due("late tick with strength " + strength, scene, NONE, x -> x.tick(0, strength, 100.0, 1.0));
            }
        }
    }

    private static void tickOfWrongDegrees() {
        for (double degrees : outside(-50.0, 200.0)) {
            for (Supplier<CleanRuns> scene : goingOn()) {
                due("tick with degrees " + degrees, scene, NONE, x -> x.tick(0, 50.0, degrees, 1.0));
            }
            for (Supplier<CleanRuns> scene : over()) {
                due("late tick with degrees " + degrees, scene, NONE, x -> x.tick(0, 50.0, degrees, 1.0));
            }
        }
    }

    private static void tickOfWrongFlow() {
        for (double flow : outside(0.0, 1000.0)) {
            for (Supplier<CleanRuns> scene : goingOn()) {
                due("tick with flow " + flow, scene, NONE, x -> x.tick(0, 50.0, 100.0, flow));
            }
            for (Supplier<CleanRuns> scene : over()) {
                due("late tick with flow " + flow, scene, NONE, x -> x.tick(0, 50.0, 100.0, flow));
            }
        }
    }

    private static void tickOfARunThatIsOver() {
        int[] states = {FAILED, DONE, BROKEN};
        for (int i = 0; i < states.length; i++) {
            due("a second of state " + states[i], over().get(i), states[i], x -> x.tick(0, 50.0, 100.0, 1.0));
            due("a miss of state " + states[i], over().get(i), states[i], x -> x.tick(0, 0.0, -50.0, 0.0));
        }
    }

    private static void interfaceOfNoSuchRun() {
        due("the first interface of all", RefusalsTest::empty, FALSE, x -> as(x.interface2(0, 10.0, 1)));
        due("interface without a run", RefusalsTest::unbegun, FALSE, x -> as(x.interface2(0, 10.0, 1)));
        for (int run : noneOf(1)) {
            due("interface of run " + run, RefusalsTest::waiting, FALSE, x -> as(x.interface2(run, 10.0, 1)));
        }
        for (int run : noneOf(30)) {
            due("interface of run " + run + " of 30", RefusalsTest::fullOfRuns, FALSE,
                x -> as(x.interface2(run, 10.0, 1)));
        }
    }

    private static void interfaceOfARunThatIsOver() {
        for (Supplier<CleanRuns> scene : over()) {
            due("interface of a run that is over", scene, FALSE, x -> as(x.interface2(0, 10.0, 1)));
        }
    }

    private static void interfaceAtAWrongValue() {
        for (double at : outside(0.0, 100.0)) {
            for (Supplier<CleanRuns> scene : goingOn()) {
                due("interface at " + at, scene, FALSE, x -> as(x.interface2(0, at, 1)));
            }
        }
    }

    private static void interfaceOfAWrongHold() {
        for (int hold : new int[] {0, 601, -1, -600, 3600, Integer.MIN_VALUE, Integer.MAX_VALUE}) {
            for (Supplier<CleanRuns> scene : goingOn()) {
                due("interface with hold " + hold, scene, FALSE, x -> as(x.interface2(0, 10.0, hold)));
            }
        }
    }

    private static void breakOffOfNoSuchRun() {
        due("the first breakOff of all", RefusalsTest::empty, FALSE, x -> as(x.breakOff(0)));
        due("breakOff without a run", RefusalsTest::unbegun, FALSE, x -> as(x.breakOff(0)));
        for (int run : noneOf(1)) {
            due("breakOff of run " + run, RefusalsTest::counting, FALSE, x -> as(x.breakOff(run)));
        }
        for (int run : noneOf(30)) {
            due("breakOff of run " + run + " of 30", RefusalsTest::fullOfRuns, FALSE, x -> as(x.breakOff(run)));
        }
    }

    private static void breakOffOfARunThatIsOver() {
        for (Supplier<CleanRuns> scene : over()) {
            due("breakOff of a run that is over", scene, FALSE, x -> as(x.breakOff(0)));
        }
    }

    private static void questionsOfNoSuchRun() {
        dueNone("of an empty object", RefusalsTest::empty, noneOf(0));
        dueNone("without a run", RefusalsTest::unbegun, noneOf(0));
        dueNone("beside one run", RefusalsTest::counting, noneOf(1));
        dueNone("beside 30 runs", RefusalsTest::fullOfRuns, noneOf(30));
    }

    private static void dueNone(String where, Supplier<CleanRuns> scene, int[] runs) {
        for (int run : runs) {
            String of = " of run " + run + " " + where;
            due("state" + of, scene, NONE, x -> x.state(run));
            due("stepOf" + of, scene, NONE, x -> x.stepOf(run));
            due("counted" + of, scene, NONE, x -> x.counted(run));
            due("failed" + of, scene, NONE, x -> x.failed(run));
            due("level" + of, scene, NONE, x -> x.level(run));
            for (int what = 0; what < 4; what++) {
                int each = what;
                due("cleaner " + what + of, scene, -1.0, x -> x.cleaner(run, each));
                due("record " + what + of, scene, NONE, x -> x.record(run, 0, each));
            }
        }
    }

    private static void questionsOfNoSuchStepOrWhat() {
        for (int what : noneOf(4)) {
            due("cleaner " + what, RefusalsTest::waiting, -1.0, x -> x.cleaner(0, what));
            due("record " + what, RefusalsTest::waiting, NONE, x -> x.record(0, 0, what));
        }
        for (int k : noneOf(2)) {
            for (int what = 0; what < 4; what++) {
                int each = what;
                due("record " + what + " of step " + k, RefusalsTest::waiting, NONE, x -> x.record(0, k, each));
            }
        }
        for (int k : noneOf(3)) {
            due("record of step " + k + " of a done run", RefusalsTest::done, NONE, x -> x.record(0, k, 0));
        }
    }

    private static void questionsThatAreAnswered() {
        due("state", RefusalsTest::waiting, WAITING, x -> x.state(0));
        due("stepOf", RefusalsTest::waiting, 1, x -> x.stepOf(0));
        due("counted", RefusalsTest::counting, 1, x -> x.counted(0));
        due("failed", RefusalsTest::failed, 3, x -> x.failed(0));
        due("level", RefusalsTest::done, 6, x -> x.level(0));
        due("level on the way", RefusalsTest::waiting, 0, x -> x.level(0));
        due("cleaner", RefusalsTest::waiting, 10.0, x -> x.cleaner(0, 1));
        due("record", RefusalsTest::waiting, 8, x -> x.record(0, 0, 3));
        due("states", RefusalsTest::waiting, 5, x -> x.states());
    }
}
