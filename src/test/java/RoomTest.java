import com.sun.management.ThreadMXBean;
import java.lang.management.ManagementFactory;

/** All calls of a run live in one room: what 512 of the dearest calls make must stay small. */
public final class RoomTest {
    private static final Check CHECK = new Check();
    private static final ThreadMXBean THREADS = (ThreadMXBean) ManagementFactory.getThreadMXBean();
    private static final int CALLS = 512;
    private static final int CALLS_OF_START = 40;

    interface Step {
        void on(LendingPool x);
    }

    public static void main(String[] args) {
        makesNothing("passDays", 1, x -> x.passDays(400));
        makesNothing("setRate", 1, x -> x.setRate(0, 5));
        makesNothing("recall and undo", 2, x -> {
            x.recall(0, 0, 50);
            x.undo();
        });
        makesNothing("wouldReplace", 1, x -> x.wouldReplace(0, 0, 100));
        makesNothing("accountAfter", 1, x -> x.accountAfter(400, 2, 0));
        makesNothing("tightestLoans", 1, x -> x.tightestLoans(0, 0, 300));
        makesNothing("fewestLoans", 1, x -> x.fewestLoans(0, 0, 300));
        makesNothing("bestPolicy", 1, x -> x.bestPolicy(0, 300));
        makesNothing("returnOrder", 1, x -> x.returnOrder(0, 3));
        makesNothing("writeReport", 1, x -> x.writeReport());
        makesNothing("reportByte", 2, x -> {
            x.writeReport();
            x.reportByte(5);
        });
        makesNothing("orders", 3, x -> {
            x.appendText(0x70617373, 0x20313b70, 0x61737320, 0x343b7061, 0x73732039);
            x.appendText(0x3b202020, 0x20202020, 0x20202020, 0x20202020, 0x20202020);
            x.runOrders();
        });
        makesNothing("pool text", 2, x -> {
            x.appendText(0x706f6f6c, 0x20312031, 0x3b202020, 0x20202020, 0x20202020);
            x.parsePool();
        });
        long before = allocated();
        new LendingPool().passDays(1);
        long object = allocated() - before;
        CHECK.due("an object takes at most 30000 bytes, not " + object, object < 30000, true);
        CHECK.end();
    }

    private static String poolText() {
        StringBuilder text = new StringBuilder("pool 30 10;security 10 3600;");
        text.append("lender 50 100 10;".repeat(6)).append("borrower 9999999;");
        for (int l = 0; l < 6; l++) {
            text.append("holding ").append(l).append(" 0 9000;");
        }
        return text.toString();
    }

    private static LendingPool twelveLoans() {
        LendingPool x = Check.pool(poolText());
        x.setPolicy(1);
        for (int i = 0; i < 12; i++) {
            x.borrow(0, 0, 100 + 37 * i, i);
        }
        return x;
    }

    private static long allocated() {
        return THREADS.getThreadAllocatedBytes(Thread.currentThread().getId());
    }

    /** The history's ten rows are made by the first changes; after them nothing is, up to an object's last call. */
    private static void makesNothing(String what, int callsOfStep, Step step) {
        int steps = (CALLS - CALLS_OF_START) / callsOfStep;
        LendingPool x = twelveLoans();
        for (int i = 0; i < 12; i++) {
            step.on(x);
        }
        long before = allocated();
        for (int i = 12; i < steps; i++) {
            step.on(x);
        }
        long made = allocated() - before;
        CHECK.due(steps + " times " + what + " make next to nothing, not " + made + " bytes", made < 4096, true);
    }
}
