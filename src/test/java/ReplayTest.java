import java.util.ArrayList;
import java.util.List;

/**
 * The document told a second time: a run is kept as the seconds and interfaces it was told, and every answer is found
 * by going through them from the first second again. Long rows of calls have to be answered alike.
 */
public final class ReplayTest {
    private static final int ROWS = 4000;
    private static final int CALLS = 512;
    private static final int NONE = -1;
    private static final int FULL = -2;

    private static long seed = 20261119;
    private static final int[] statesSeen = new int[5];

    public static void main(String[] args) {
        for (int row = 0; row < ROWS; row++) {
            String fault = faultOfARow();
            if (fault != null) {
                System.out.println("row " + row + ": " + fault);
                System.exit(1);
            }
        }
        StringBuilder told = new StringBuilder(ROWS + " rows are answered alike; seconds by state behind them:");
        boolean all = true;
        for (int seen : statesSeen) {
            told.append(' ').append(seen);
            all &= seen > 1000;
        }
        System.out.println(told);
        if (!all) {
            System.out.println("a state was hardly ever reached: the rows show too little");
            System.exit(1);
        }
    }

    private record Step(int kind, int seconds, double strength, double degrees) {
        boolean isOfWater() {
            return kind == 0 || kind == 4;
        }

        boolean holds(Second s) {
            boolean strong = s.strength >= strength;
            boolean warm = s.degrees >= degrees;
            return switch (kind) {
                case 0 -> s.flow >= 1 && s.strength <= strength;
                case 1, 2 -> s.flow >= 1 && strong && warm;
                case 3 -> s.flow >= 0.5 && warm;
                default -> s.flow <= 0.125;
            };
        }
    }

    private record Second(double strength, double degrees, double flow) {
    }

    /** Told when so many seconds had passed. */
    private record Interface(int behind, double at, int hold) {
    }

    private static final class Recipe {
        final List<Step> steps = new ArrayList<>();
        boolean begun;
    }

    private static final class Told {
        final List<Step> steps;
        final int level;
        final List<Second> seconds = new ArrayList<>();
        final List<Interface> interfaces = new ArrayList<>();
        boolean broken;

        Told(List<Step> steps, int level) {
            this.steps = steps;
            this.level = level;
        }

        Interface interfaceBehind(int seconds) {
            Interface found = null;
            for (Interface each : interfaces) {
                if (each.behind <= seconds) {
                    found = each;
                }
            }
            return found;
        }
    }

    /** What a run has come to, found step by step from its first second. */
    private static final class Replay {
        final Told told;
        final List<int[]> records = new ArrayList<>();
        final double[] used = new double[3];
        int at;
        int state = 1;
        int counted;
        int failures;

        Replay(Told told) {
            this.told = told;
            for (int k = 0; k < told.steps.size() && state < 2; k++) {
                int[] entry = {told.steps.get(k).kind, 0, at, NONE};
                records.add(entry);
                counted = 0;
                state = 1;
                if (waits(k) && count(told.steps.get(k), entry)) {
                    entry[3] = at;
                    state = entry[1] == 3 ? 2 : k == told.steps.size() - 1 ? 3 : 1;
                } else {
                    break;
                }
            }
            if (told.broken) {
                records.get(records.size() - 1)[3] = at;
                state = 4;
            }
        }

        /** Whether step k gets through its wait, or has none. */
        private boolean waits(int k) {
            if (k == 0 || told.interfaceBehind(at - 1) == null) {
                return true;
            }
            Step step = told.steps.get(k);
            int passed = 0;
            while (at < told.seconds.size()) {
                Second second = told.seconds.get(at);
                Interface by = told.interfaceBehind(at);
                used[step.isOfWater() ? 0 : 1] += second.flow;
                boolean passes = step.isOfWater() ? second.strength <= by.at : second.strength >= by.at;
                passed = passes ? passed + 1 : 0;
                at++;
                if (passes && passed >= by.hold) {
                    return true;
                }
            }
            state = 0;
            return false;
        }

        /** Whether the step comes to its end, by its seconds or by its third failure. */
        private boolean count(Step step, int[] entry) {
            int missed = 0;
            while (at < told.seconds.size()) {
                Second second = told.seconds.get(at);
                boolean holds = step.holds(second);
                if (step.isOfWater()) {
                    used[0] += second.flow;
                } else {
                    used[1] += second.flow;
                    used[2] += holds ? second.flow : second.flow / 2;
                }
                at++;
                counted += holds ? 1 : 0;
                missed = holds ? 0 : missed + 1;
                if (counted == step.seconds) {
                    return true;
                }
                if (missed == 30) {
                    counted = 0;
                    missed = 0;
                    failures++;
                    entry[1]++;
                    if (entry[1] == 3) {
                        return true;
                    }
                }
            }
            return false;
        }
    }

    private static final class Model {
        final List<Recipe> recipes = new ArrayList<>();
        final List<Told> runs = new ArrayList<>();

        private Told run(int run) {
            return run >= 0 && run < runs.size() ? runs.get(run) : null;
        }

        private Recipe recipe(int recipe) {
            return recipe >= 0 && recipe < recipes.size() ? recipes.get(recipe) : null;
        }

        private boolean isOn(Told run) {
            return run != null && new Replay(run).state < 2;
        }

        double recipe() {
            if (recipes.size() == 10) {
                return FULL;
            }
            recipes.add(new Recipe());
            return recipes.size() - 1;
        }

        double step(int[] n, double[] d) {
            Recipe recipe = recipe(n[0]);
            boolean fits = recipe != null && !recipe.begun && recipe.steps.size() < 12
                && n[1] >= 0 && n[1] <= 4 && n[2] >= 1 && n[2] <= 3600
                && d[0] >= 0 && d[0] <= 100 && d[1] >= 0 && d[1] <= 150;
            if (fits) {
                recipe.steps.add(new Step(n[1], n[2], d[0], d[1]));
            }
            return fits ? 1 : 0;
        }

        double start(int[] n) {
            Recipe recipe = recipe(n[0]);
            if (recipe == null || recipe.steps.isEmpty() || n[1] < 1 || n[1] > 9) {
                return NONE;
            }
            if (runs.size() == 30) {
                return FULL;
            }
            recipe.begun = true;
            runs.add(new Told(recipe.steps, n[1]));
            return runs.size() - 1;
        }

        double tick(int[] n, double[] d) {
            Told run = run(n[0]);
            boolean fits = run != null && d[0] >= 0 && d[0] <= 1000 && d[1] >= -50 && d[1] <= 200
                && d[2] >= 0 && d[2] <= 1000;
            if (!fits) {
                return NONE;
            }
            if (isOn(run)) {
                run.seconds.add(new Second(d[0], d[1], d[2]));
            }
            int state = new Replay(run).state;
            statesSeen[state]++;
            return state;
        }

        double interface2(int[] n, double[] d) {
            Told run = run(n[0]);
            boolean fits = isOn(run) && d[0] >= 0 && d[0] <= 100 && n[1] >= 1 && n[1] <= 600;
            if (fits) {
                run.interfaces.add(new Interface(run.seconds.size(), d[0], n[1]));
            }
            return fits ? 1 : 0;
        }

        double breakOff(int[] n) {
            Told run = run(n[0]);
            boolean fits = isOn(run);
            if (fits) {
                run.broken = true;
            }
            return fits ? 1 : 0;
        }

        double asked(int method, int[] n) {
            Told run = run(n[0]);
            if (run == null) {
                return NONE;
            }
            Replay replay = new Replay(run);
            return switch (method) {
                case 4 -> replay.state;
                case 5 -> replay.records.size() - 1;
                case 6 -> replay.counted;
                case 7 -> replay.failures;
                case 8 -> n[1] < 0 || n[1] > 3 ? -1
                    : n[1] == 3 ? 1000 - replay.used[1] + replay.used[2] : replay.used[n[1]];
                case 10 -> replay.state == 3 ? run.level : 0;
                default -> n[1] < 0 || n[1] >= replay.records.size() || n[2] < 0 || n[2] > 3 ? NONE
                    : replay.records.get(n[1])[n[2]];
            };
        }

        double call(int method, int[] n, double[] d) {
            return switch (method) {
                case 0 -> recipe();
                case 1 -> step(n, d);
                case 2 -> start(n);
                case 3 -> tick(n, d);
                case 9 -> interface2(n, d);
                case 11 -> breakOff(n);
                case 13 -> 5;
                default -> asked(method, n);
            };
        }
    }

    private static double call(CleanRuns x, int method, int[] n, double[] d) {
        return switch (method) {
            case 0 -> x.recipe();
            case 1 -> x.step(n[0], n[1], n[2], d[0], d[1]) ? 1 : 0;
            case 2 -> x.start(n[0], n[1]);
            case 3 -> x.tick(n[0], d[0], d[1], d[2]);
            case 4 -> x.state(n[0]);
            case 5 -> x.stepOf(n[0]);
            case 6 -> x.counted(n[0]);
            case 7 -> x.failed(n[0]);
            case 8 -> x.cleaner(n[0], n[1]);
            case 9 -> x.interface2(n[0], d[0], n[1]) ? 1 : 0;
            case 10 -> x.level(n[0]);
            case 11 -> x.breakOff(n[0]) ? 1 : 0;
            case 12 -> x.record(n[0], n[1], n[2]);
            default -> x.states();
        };
    }

    private static String faultOfARow() {
        CleanRuns x = new CleanRuns();
        Model model = new Model();
        int runs = 1 + below(below(4) == 0 ? 30 : 3);
        boolean misses = false;
        for (int i = 0; i < CALLS; i++) {
            misses = below(40) == 0 ? below(2) == 0 : misses;
            int method = methodFor(i);
            int[] n = intsFor(method, runs);
            double[] d = doublesFor(method, misses);
            double want = model.call(method, n, d);
            double got = call(x, method, n, d);
            if (got != want) {
                return "call " + i + " of method " + method + " answered " + got + ", due is " + want;
            }
        }
        return null;
    }

    /** First recipes, steps and runs, then mostly seconds; few runs are broken off, since the others tell more. */
    private static int methodFor(int call) {
        if (call < 30) {
            return call < 2 ? 0 : call < 20 ? 1 : 2;
        }
        int method = below(100) < 70 ? 3 : below(14);
        return method == 11 && below(30) != 0 ? 12 : method;
    }

    private static int[] intsFor(int method, int runs) {
        int first = below(60) == 0 ? below(34) - 2 : below(method == 1 || method == 2 ? 2 : runs);
        boolean wrong = below(40) == 0;
        return switch (method) {
            case 1 -> new int[] {first, below(wrong ? 7 : 5) - (wrong ? 1 : 0), wrong ? below(3605) : 1 + below(4)};
            case 2 -> new int[] {first, wrong ? below(12) - 1 : 1 + below(9)};
            case 9 -> new int[] {first, wrong ? below(603) : 1 + below(5)};
            case 12 -> new int[] {first, below(wrong ? 15 : 5) - 1, below(wrong ? 6 : 4) - (wrong ? 1 : 0)};
            default -> new int[] {first, below(6) - 1, 0};
        };
    }

    private static double[] doublesFor(int method, boolean misses) {
        if (below(80) == 0) {
            return new double[] {below(2400) * 0.5 - 100, below(600) * 0.5 - 75, below(2400) * 0.5 - 100};
        }
        if (method == 3 && misses) {
            return new double[] {below(3), below(3) * 10, 0.25 + below(2) * 0.125};
        }
        double flow = below(3) == 0 ? below(5) * 0.125 : 1.0 + below(40) * 0.1;
        return new double[] {below(method == 1 ? 3 : 5), below(method == 1 ? 3 : 5) * 10, flow};
    }

    /** The next of a fixed row of numbers, the same in every run. */
    private static int below(int bound) {
        seed = seed * 6364136223846793005L + 1442695040888963407L;
        return (int) ((seed >>> 33) % bound);
    }
}
