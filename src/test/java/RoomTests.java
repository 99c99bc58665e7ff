import java.lang.management.ManagementFactory;

/** All calls of a run live in one room: what an object and its calls make is counted, in bytes of the machine. */
public final class RoomTests {
    private static final com.sun.management.ThreadMXBean BEAN = (com.sun.management.ThreadMXBean) ManagementFactory.getThreadMXBean();
    private static final long MOST_NEW = 64 * 1024, MOST_TABLE = 8 * 1024, MOST_CALLS = 4 * 1024;
    private static int wrong = 0;

    private static long made() {
        return BEAN.getThreadAllocatedBytes(Thread.currentThread().getId());
    }

    private static void must(String what, long bytes, long most) {
        if (bytes <= most) return;
        wrong++;
        System.out.println(what + " made " + bytes + " bytes, at most due are " + most);
    }

    public static void main(String[] args) {
        house();
        long before = made();
        SeatsRound x = house();
        must("a new object with a table", made() - before, MOST_NEW + MOST_TABLE);
        dearCalls(x);
        before = made();
        dearCalls(x);
        must("the dearest calls", made() - before, MOST_CALLS);
        for (int i = 0; i < 50; i++) refusedTables(x);
        before = made();
        refusedTables(x);
        must("tables with a FAULT", made() - before, MOST_CALLS);
        System.out.println(wrong == 0 ? "the room is large enough" : wrong + " things take too much room");
        if (wrong != 0) System.exit(1);
    }

    private static SeatsRound house() {
        SeatsRound x = new SeatsRound();
        for (int k = 0; k < 12; k++) x.keeper(k % 6, 8);
        for (int k = 0; k < 12; k++) x.become(k, 1);
        for (int n = 0; n < 40; n++) {
            x.feed(1, n);
            x.name();
        }
        x.feed(3, 'p' | ' ' << 8 | '2' << 16);
        x.table(4095, 1);
        for (int k = 0; k < 12; k++) x.knows(k, 0);
        return x;
    }

    private static void dearCalls(SeatsRound x) {
        for (int round = 0; round < 30; round++) {
            for (int k = 0; k < 5; k++) x.comes(2 * k);
            x.order(0);
            for (int z = 0; z < 6; z++) x.turning(z);
            x.harm(0);
            x.write(0, round);
            x.mend(0);
            x.moves(0, 0, 1);
            x.ofTable(0, 5);
            x.tooFew(0);
            x.trees(0, 1, 0);
            x.act(3, 3, round);
            x.row(0, 3, 60);
            x.shift(0, 0, 0, 1, 59);
            x.names(0, 0, 20);
        }
    }

    private static void refusedTables(SeatsRound x) {
        for (int i = 0; i < 100; i++) {
            x.feed(2, 'c' | ' ' << 8);
            x.table(4095, 0);
        }
    }
}
