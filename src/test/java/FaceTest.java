import java.lang.reflect.Constructor;
import java.lang.reflect.Field;
import java.lang.reflect.Method;
import java.lang.reflect.Modifier;
import java.util.NoSuchElementException;
import java.util.Random;
import java.util.TreeSet;

/** The face is the document's and no more; whatever is asked, nothing else is thrown. */
public final class FaceTest {
    private static final int[] ODD = {Integer.MIN_VALUE, Integer.MIN_VALUE + 1, -1000000, -33, -1, 0, 1, 2, 3, 4, 5, 6, 7,
        12, 19, 20, 21, 24, 25, 33, 64, 20000, 1 << 29, 1 << 30, Integer.MAX_VALUE - 1, Integer.MAX_VALUE};

    private static int wrong = 0;

    public static void main(String[] args) {
        Checks.endInTime();
        members();
        for (int seed = 0; seed < 200; seed++) {
            anyCalls(new Random(seed), seed);
        }
        if (wrong != 0) {
            System.out.println(wrong + " faults");
            System.exit(1);
        }
        System.out.println("the face is as it should be");
    }

    private static void members() {
        TreeSet<String> due = new TreeSet<>();
        due.add("public static final int OutcomeDesk.NONE");
        due.add("public OutcomeDesk()");
        due.add("public boolean OutcomeDesk.add(int,int,int,int)");
        due.add("public int OutcomeDesk.clear(int)");
        due.add("public int OutcomeDesk.explore(int) throws java.lang.IllegalArgumentException,java.lang.IllegalStateException");
        due.add("public int OutcomeDesk.count(int)");
        due.add("public int OutcomeDesk.outcome(int,int) throws java.util.NoSuchElementException");
        due.add("public int OutcomeDesk.move(int,int) throws java.util.NoSuchElementException");
        due.add("public int OutcomeDesk.may(int,int)");
        TreeSet<String> got = new TreeSet<>();
        for (Field field : OutcomeDesk.class.getDeclaredFields()) {
            keepOpen(got, field.getModifiers(), field.toString());
        }
        for (Constructor<?> constructor : OutcomeDesk.class.getDeclaredConstructors()) {
            keepOpen(got, constructor.getModifiers(), constructor.toString());
        }
        for (Method method : OutcomeDesk.class.getDeclaredMethods()) {
            keepOpen(got, method.getModifiers(), method.toString());
        }
        if (!due.equals(got) || !Modifier.isFinal(OutcomeDesk.class.getModifiers())) {
            wrong++;
            System.out.println("the face is " + got + ", due is " + due);
        }
    }

    private static void keepOpen(TreeSet<String> got, int modifiers, String text) {
        if (!Modifier.isPrivate(modifiers)) {
            got.add(text);
        }
    }

    private static void anyCalls(Random random, int seed) {
        OutcomeDesk desk = new OutcomeDesk();
        for (int n = 0; n < 512; n++) {
            int call = random.nextInt(7);
            int a = pick(random);
            int b = pick(random);
            try {
                ask(desk, call, a, b, random);
            } catch (RuntimeException e) {
                Class<?> kind = e.getClass();
                boolean fine = call == 2 && (kind == IllegalArgumentException.class || kind == IllegalStateException.class)
                    || (call == 4 || call == 5) && kind == NoSuchElementException.class;
                if (!fine) {
                    wrong++;
                    System.out.println("seed " + seed + ", call " + n + " of kind " + call + " throws " + e);
                }
            }
        }
    }

    private static int pick(Random random) {
        return random.nextBoolean() ? random.nextInt(4) : ODD[random.nextInt(ODD.length)];
    }

    private static void ask(OutcomeDesk desk, int call, int a, int b, Random random) {
        switch (call) {
            case 0:
                for (int n = 0; n < 4; n++) {
                    desk.add(random.nextInt(4), random.nextInt(7), random.nextInt(4), random.nextInt(4));
                }
                desk.add(a, b, pick(random), pick(random));
                break;
            case 1:
                desk.clear(a);
                break;
            case 2:
                desk.explore(a);
                break;
            case 3:
                desk.count(a);
                break;
            case 4:
                desk.outcome(a, b);
                break;
            case 5:
                desk.move(a, b);
                break;
            default:
                desk.may(a, b);
                break;
        }
    }
}
