import java.lang.reflect.InvocationTargetException;
import java.lang.reflect.Method;
import java.util.Arrays;
import java.util.Comparator;
import java.util.NoSuchElementException;

/** What the tests share: calls whose exceptions are answers too, texts of all that a desk tells, and the count of faults. */
abstract class Checks {
    static final String ILLEGAL_ARGUMENT = "throws.IllegalArgumentException";
    static final String ILLEGAL_STATE = "throws.IllegalStateException";
    static final String NO_SUCH_ELEMENT = "throws.NoSuchElementException";
    static final String NONE = "-1";

    /** The numbers next to 0 .. 3 on both sides, and those far from them. */
    static final int[] NOT_0_TO_3 = {
        Integer.MIN_VALUE, Integer.MIN_VALUE + 3, -65536, -256, -16, -4, -3, -2, -1,
        4, 5, 7, 8, 16, 17, 256, 65536, 1 << 30, Integer.MAX_VALUE - 3, Integer.MAX_VALUE};

    private static final int MOST_SECONDS = 400;
    private static final int MOST_SHOWN = 40;

    private static int wrong = 0;
    private static String running = "";

    /** Every method of the class whose name begins with a promise, so that none can be forgotten. */
    static void runAll(Class<?> tests) {
        endInTime();
        Method[] methods = tests.getDeclaredMethods();
        Arrays.sort(methods, Comparator.comparing(Method::getName));
        int ran = 0;
        for (Method method : methods) {
            if (method.getName().matches("promise[1-8][A-Z].*") && method.getParameterCount() == 0) {
                running = method.getName();
                runOne(method);
                ran++;
            }
        }
        System.out.println(ran + " edges looked at");
        finish(ran);
    }

    private static void runOne(Method method) {
        try {
            method.setAccessible(true);
            method.invoke(null);
        } catch (InvocationTargetException e) {
            fault("ended by " + e.getCause());
        } catch (IllegalAccessException e) {
            fault("can't be run: " + e);
        }
    }

    /** A class that doesn't come to an end is at fault too. */
    static void endInTime() {
        Thread watch = new Thread(() -> {
            try {
                Thread.sleep(1000L * MOST_SECONDS);
            } catch (InterruptedException e) {
                return;
            }
            System.out.println(running + " does not end");
            Runtime.getRuntime().halt(1);
        });
        watch.setDaemon(true);
        watch.start();
    }

    static void finish(int ran) {
        if (wrong != 0 || ran == 0) {
            System.out.println(wrong + " answers are wrong");
            System.exit(1);
        }
        System.out.println("all answers are as due");
    }

    static void fault(String text) {
        wrong++;
        if (wrong <= MOST_SHOWN) {
            System.out.println((running.isEmpty() ? "" : running + ": ") + text);
        }
    }

    static void same(String what, Object due, Object got) {
        if (!due.toString().equals(got.toString())) {
            fault(what + " answered " + got + ", due is " + due);
        }
    }

    static OutcomeDesk desk(int[]... rows) {
        OutcomeDesk desk = new OutcomeDesk();
        fill(desk, rows);
        return desk;
    }

    static void fill(OutcomeDesk desk, int[]... rows) {
        for (int[] row : rows) {
            same("add" + Arrays.toString(row), true, desk.add(row[0], row[1], row[2], row[3]));
        }
    }

    static void refill(OutcomeDesk desk, int[]... rows) {
        for (int thread = 0; thread < 4; thread++) {
            desk.clear(thread);
        }
        fill(desk, rows);
    }

    static int[] row(int thread, int number, int a, int b) {
        return new int[] {thread, number, a, b};
    }

    static void counts(OutcomeDesk desk, int... due) {
        for (int what = 0; what < due.length; what++) {
            same("count(" + what + ")", due[what], desk.count(what));
        }
    }

    /** The registers and words of an outcome in one text, then its way. */
    static String told(OutcomeDesk desk, int k) {
        return items(desk, k) + " " + way(desk, k);
    }

    static String items(OutcomeDesk desk, int k) {
        StringBuilder text = new StringBuilder();
        for (int what = 0; what < 20; what++) {
            text.append(outcome(desk, k, what));
        }
        return text.toString();
    }

    static String way(OutcomeDesk desk, int k) {
        String moves = moves(desk, k);
        same("move(" + k + ", the length of its way)", NO_SUCH_ELEMENT, move(desk, k, desk.outcome(k, 20)));
        return moves;
    }

    private static String moves(OutcomeDesk desk, int k) {
        int[] moves = new int[desk.outcome(k, 20)];
        for (int i = 0; i < moves.length; i++) {
            moves[i] = desk.move(k, i);
        }
        return Arrays.toString(moves);
    }

    /** All that a desk tells. No call here is refused: it is to show what a refused one before it has changed. */
    static String allTold(OutcomeDesk desk) {
        StringBuilder text = new StringBuilder();
        for (int what = 0; what <= 4; what++) {
            text.append(desk.count(what)).append(' ');
        }
        for (int k = 0; k < desk.count(2); k++) {
            text.append(items(desk, k)).append(moves(desk, k)).append('\n');
        }
        for (int what = 0; what < 20; what++) {
            for (int v = 0; v < 4; v++) {
                text.append(' ').append(desk.may(what, v));
            }
        }
        return text.toString();
    }

    static String explore(OutcomeDesk desk, int model) {
        try {
            return Integer.toString(desk.explore(model));
        } catch (IllegalArgumentException e) {
            return ILLEGAL_ARGUMENT;
        } catch (IllegalStateException e) {
            return ILLEGAL_STATE;
        }
    }

    static String outcome(OutcomeDesk desk, int k, int what) {
        try {
            return Integer.toString(desk.outcome(k, what));
        } catch (NoSuchElementException e) {
            return NO_SUCH_ELEMENT;
        }
    }

    static String move(OutcomeDesk desk, int k, int i) {
        try {
            return Integer.toString(desk.move(k, i));
        } catch (NoSuchElementException e) {
            return NO_SUCH_ELEMENT;
        }
    }
}
