import java.lang.management.ManagementFactory;

/** What a run makes is counted: the rows of a desk are made once and used again. */
public final class RoomTest {
    public static void main(String[] args) {
        Checks.endInTime();
        long smallDesks = bytesOf(() -> smallDesks(500));
        long largeDesk = bytesOf(() -> largeDesk(2));
        long largeDeskLong = bytesOf(() -> largeDesk(200));
        System.out.println("bytes of 500 small desks " + smallDesks + ", of a large one " + largeDesk + ", used long " + largeDeskLong);
        boolean small = smallDesks < 500 * 8000;
        boolean large = largeDesk < 2_500_000;
        boolean usedAgain = largeDeskLong < largeDesk + 100_000;
        if (!small || !large || !usedAgain) {
            System.out.println("too much room is used");
            System.exit(1);
        }
    }

    private static void smallDesks(int desks) {
        for (int i = 0; i < desks; i++) {
            OutcomeDesk desk = new OutcomeDesk();
            desk.add(0, 0, 0, 1);
            desk.explore(1);
        }
    }

    private static void largeDesk(int explorations) {
        OutcomeDesk desk = new OutcomeDesk();
        for (int[] row : Programs.STATES_20000[2]) {
            desk.add(row[0], row[1], row[2], row[3]);
        }
        for (int i = 0; i < explorations; i++) {
            desk.explore(2);
            for (int k = 0; k < desk.count(2); k++) {
                desk.move(k, desk.outcome(k, 20) - 1);
                desk.may(k % 20, 0);
            }
        }
    }

    private static long bytesOf(Runnable work) {
        com.sun.management.ThreadMXBean bean = (com.sun.management.ThreadMXBean) ManagementFactory.getThreadMXBean();
        work.run();
        long before = bean.getCurrentThreadAllocatedBytes();
        work.run();
        return bean.getCurrentThreadAllocatedBytes() - before;
    }
}
