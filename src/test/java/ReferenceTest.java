import java.util.Random;

/** Runs of calls by a fixed seed, and programs of chosen sizes: each answer compared with that of a slow model. */
public final class ReferenceTest extends Checks {
    private static int compared = 0;

    public static void main(String[] args) {
        endInTime();
        for (int seed = 0; seed < 500; seed++) {
            run(new Random(seed), seed, 4 + seed % 9);
        }
        for (int seed = 0; seed < 60; seed++) {
            runOf512(new Random(seed), seed);
        }
        chosenSizes();
        System.out.println(compared + " answers compared");
        finish(compared);
    }

    private static void run(Random random, int seed, int most) {
        OutcomeDesk desk = new OutcomeDesk();
        Reference model = new Reference();
        for (int round = 0; round < 3; round++) {
            if (random.nextInt(3) == 0) {
                int thread = random.nextInt(6) - 1;
                same(seed, "clear", model.clear(thread), Integer.toString(desk.clear(thread)));
            }
            for (int i = 0; i < most; i++) {
                int thread = random.nextInt(12) == 0 ? random.nextInt(7) - 2 : random.nextInt(2 + seed % 3);
                addOne(random, seed, thread, desk, model);
            }
            for (int i = 0; i < 3; i++) {
                int which = random.nextInt(10) == 0 ? random.nextInt(9) - 4 : random.nextInt(3);
                same(seed, "explore " + which, model.explore(which), explore(desk, which));
                compareTold(seed, random, desk, model);
            }
        }
    }

    private static void addOne(Random random, int seed, int thread, OutcomeDesk desk, Reference model) {
        int number = random.nextInt(20) == 0 ? random.nextInt(12) - 3 : kind(random, seed);
        int a = number == 3 ? 0 : random.nextInt(20) == 0 ? random.nextInt(8) - 2 : random.nextInt(1 + random.nextInt(4));
        // few registers and values let different ways meet in the same state
        int b = number == 3 ? 0 : random.nextInt(20) == 0 ? random.nextInt(8) - 2 : random.nextInt(seed % 4 == 0 ? 2 : 4);
        same(seed, "add", model.add(thread, number, a, b), Boolean.toString(desk.add(thread, number, a, b)));
    }

    /** Some seeds have many stores, some many skips, so that each meets its edges often. */
    private static int kind(Random random, int seed) {
        int kind = random.nextInt(7);
        if (random.nextInt(3) > 0) {
            return kind;
        }
        return new int[] {0, 1, 6, 2, 5}[seed % 5];
    }

    private static void compareTold(int seed, Random random, OutcomeDesk desk, Reference model) {
        for (int what = -2; what <= 7; what++) {
            same(seed, "count " + what, model.count(what), Integer.toString(desk.count(what)));
        }
        int outcomes = desk.count(2);
        for (int k = -1; k <= outcomes; k += 1 + (k >= 0 && outcomes > 40 ? random.nextInt(outcomes / 20) : 0)) {
            for (int what = -1; what <= 21; what++) {
                same(seed, "outcome " + k + " " + what, model.outcome(k, what), outcome(desk, k, what));
            }
            for (int i = -1; i <= 25; i++) {
                same(seed, "move " + k + " " + i, model.move(k, i), move(desk, k, i));
            }
        }
        for (int what = -1; what <= 20; what++) {
            for (int v = -1; v <= 4; v++) {
                same(seed, "may " + what + " " + v, model.may(what, v), Integer.toString(desk.may(what, v)));
            }
        }
    }

    /** As many calls as an object is used for, in any order: each of them is compared, the last one too. */
    private static void runOf512(Random random, int seed) {
        OutcomeDesk desk = new OutcomeDesk();
        Reference model = new Reference();
        for (int call = 1; call <= 512; call++) {
            int kind = random.nextInt(12);
            int a = random.nextInt(8) - 2;
            int b = random.nextInt(24) - 2;
            if (kind < 3) {
                addOne(random, seed, random.nextInt(4), desk, model);
            } else if (kind == 3) {
                same(seed, "clear " + a, model.clear(a), Integer.toString(desk.clear(a)));
            } else if (kind == 4) {
                same(seed, "explore " + a, model.explore(a), explore(desk, a));
            } else if (kind < 7) {
                same(seed, "count " + a, model.count(a), Integer.toString(desk.count(a)));
            } else if (kind == 7) {
                same(seed, "may " + b + " " + a, model.may(b, a), Integer.toString(desk.may(b, a)));
            } else if (kind < 10) {
                same(seed, "outcome " + a + " " + b, model.outcome(a, b), outcome(desk, a, b));
            } else {
                same(seed, "move " + a + " " + b, model.move(a, b), move(desk, a, b));
            }
        }
    }

    /** Exactly as many states as there may be and one more, and the sizes at which the rows of the class grow. */
    private static void chosenSizes() {
        OutcomeDesk desk = new OutcomeDesk();
        Reference model = new Reference();
        for (int which = 0; which < 3; which++) {
            exploreChosen(desk, model, Programs.STATES_20000[which], which, 20000);
            exploreChosen(desk, model, Programs.STATES_20001[which], which, 20000);
        }
        for (int i = 0; i < Programs.SIZES.length; i++) {
            exploreChosen(desk, model, Programs.WHERE_ROWS_GROW[i], 2, Programs.SIZES[i]);
            exploreChosen(new OutcomeDesk(), new Reference(), Programs.WHERE_ROWS_GROW[i], 2, Programs.SIZES[i]);
        }
    }

    private static void exploreChosen(OutcomeDesk desk, Reference model, int[][] rows, int which, int states) {
        refill(desk, rows);
        for (int thread = 0; thread < 4; thread++) {
            model.clear(thread);
        }
        for (int[] row : rows) {
            model.add(row[0], row[1], row[2], row[3]);
        }
        same(-states, "explore " + which, model.explore(which), explore(desk, which));
        same("states", states, desk.count(1));
        compareTold(-states, new Random(states), desk, model);
    }

    private static void same(int seed, String call, String due, String got) {
        compared++;
        if (!due.equals(got)) {
            fault("seed " + seed + ": " + call + " answered " + got + ", due is " + due);
        }
    }
}
