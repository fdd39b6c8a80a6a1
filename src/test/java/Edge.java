import java.util.NoSuchElementException;

/** What the tests of single sentences share: pools to try them on, and ways to ask. */
abstract class Edge {
    static final Check CHECK = new Check();
    static final int NONE = LendingPool.NONE;
    static final int LOW = Integer.MIN_VALUE;
    static final int HIGH = Integer.MAX_VALUE;

    /** Available of security 0: 100, 50 and 50; of security 1 nothing. */
    static final String SMALL = "pool 2 10;security 100 3600;security 50 0;lender 50 100 15;lender 100 50 0;"
        + "lender 33 100 100;borrower 1000000;borrower 5000;holding 0 0 100;holding 1 0 100;holding 2 0 50;";

    static LendingPool empty() {
        return new LendingPool();
    }

    static LendingPool small() {
        return Check.pool(SMALL);
    }

    /**
     * Day 1. Loan 0: 50 of lender 0 (10 of them recalled, due on day 2), 50 of lender 1, 20 of lender 2, rebate 10;
     * loan 1: 30 of lender 2, rebate 20; both of borrower 0 in security 0. Available: 50 of lender 0 alone.
     * Accounts: 2, 4 and 0 of the lenders, -11 and 0 of the borrowers, 5 of the agent. Four changes can be undone,
     * a report is written, and the text "pool 0 0" stands in the buffer.
     */
    static LendingPool busy() {
        LendingPool x = small();
        x.borrow(0, 0, 120, 10);
        x.borrow(0, 0, 30, 20);
        x.recall(0, 0, 60);
        x.passDays(1);
        x.writeReport();
        Check.write(x, "pool 0 0");
        return x;
    }

    /**
     * As many of everything as there can be. Loan i of 0 to 10 is of borrower i % 4 in security 0, 50 shares of lender
     * i % 6, rebate 10 * i; loan 11 is of borrower 3 in security 3, 70 shares of lender 5, rebate 110. Available: 50 of
     * lender 5 in security 0.
     */
    static LendingPool full() {
        StringBuilder text = new StringBuilder("pool 5 20;security 11 100;security 12 200;security 13 300;security 14 400;");
        for (int l = 0; l < 6; l++) {
            text.append("lender ").append(10 * l + 10).append(" 100 ").append(l + 1).append(';');
        }
        for (int b = 0; b < 4; b++) {
            text.append("borrower ").append(100001 + b).append(';');
        }
        for (int l = 0; l < 6; l++) {
            text.append("holding ").append(l).append(" 0 100;");
        }
        LendingPool x = Check.pool(text.append("holding 5 3 70;").toString());
        for (int i = 0; i < 11; i++) {
            x.borrow(i % 4, 0, 50, 10 * i);
        }
        x.borrow(3, 3, 70, 110);
        return x;
    }

    /** One security of price 100 and rate 0, one lender with 1000 shares, one borrower. */
    static LendingPool lone(int notice, int penalty) {
        return Check.pool("pool " + notice + " " + penalty
            + ";security 100 0;lender 0 100 0;borrower 9999999;holding 0 0 1000;");
    }

    /** Two lenders with as many shares of price 1 as a holding can have. */
    static LendingPool wide() {
        return Check.pool("pool 0 0;security 1 0;lender 0 100 0;lender 0 100 0;borrower 9999999;"
            + "holding 0 0 99999;holding 1 0 99999;");
    }

    /** Lenders with these holdings of one security of price 1, and a borrower. */
    static LendingPool held(int... holdings) {
        StringBuilder text = new StringBuilder("pool 2 0;security 1 0;").append("lender 0 100 0;".repeat(holdings.length));
        text.append("borrower 9999999;");
        for (int l = 0; l < holdings.length; l++) {
            text.append("holding ").append(l).append(" 0 ").append(holdings[l]).append(';');
        }
        return Check.pool(text.toString());
    }

    private static String where() {
        return StackWalker.getInstance().walk(frames -> frames
            .filter(f -> f.getClassName().startsWith("EdgesOf")).findFirst()
            .map(f -> f.getFileName() + ":" + f.getLineNumber() + " " + f.getMethodName()).orElse("?"));
    }

    private static Object plain(Object answer) {
        return answer instanceof Integer i ? Long.valueOf(i) : answer;
    }

    static void due(Object got, Object want) {
        CHECK.due(where(), plain(got), plain(want));
    }

    static Object outcome(LendingPool x, Use call) {
        try {
            return call.on(x);
        } catch (RuntimeException e) {
            return e.getClass();
        }
    }

    /** What a call answers on a pool of its own. */
    static void answers(Object want, Make make, Use call) {
        due(outcome(make.pool(), call), want);
    }

    /** The call is refused with just this exception, and afterwards the pool is as one on which it was never tried. */
    private static void refused(Class<? extends RuntimeException> want, Make make, Use... calls) {
        for (Use call : calls) {
            LendingPool x = make.pool();
            due(outcome(x, call), want);
            due(Look.all(x), Look.all(make.pool()));
        }
    }

    static void index(Make make, Use... calls) {
        refused(IndexOutOfBoundsException.class, make, calls);
    }

    static void argument(Make make, Use... calls) {
        refused(IllegalArgumentException.class, make, calls);
    }

    static void state(Make make, Use... calls) {
        refused(IllegalStateException.class, make, calls);
    }

    static void element(Make make, Use... calls) {
        refused(NoSuchElementException.class, make, calls);
    }

    static void arithmetic(Make make, Use... calls) {
        refused(ArithmeticException.class, make, calls);
    }

    /** A pool text that is wrong: the code, the position, the empty buffer, and the pool that stays. */
    static void wrong(String text, int code, int position) {
        LendingPool x = busy();
        x.truncateText(0);
        due(Check.parse(x, text), NONE);
        due(x.errorCode() + " at " + x.errorPosition(), code + " at " + position);
        due(outcome(x, y -> y.truncateText(1)), IllegalArgumentException.class);
        due(Look.state(x) + Look.report(x) + x.undoDepth(), busyState());
    }

    private static String busyState() {
        LendingPool x = busy();
        return Look.state(x) + Look.report(x) + x.undoDepth();
    }

    /** A pool text that is right, on a new object; answers the pool. */
    static LendingPool right(String text, int statements) {
        LendingPool x = new LendingPool();
        due(Check.parse(x, text), statements);
        due(x.errorCode() + " at " + x.errorPosition(), "0 at -1");
        due(outcome(x, y -> y.truncateText(1)), IllegalArgumentException.class);
        return x;
    }

    /** An order text that is wrong, on the busy pool, of which nothing changes but the buffer. */
    static void wrongOrders(String text, int position) {
        LendingPool x = busy();
        x.truncateText(0);
        due(Check.orders(x, text), -1 - position);
        due(outcome(x, y -> y.truncateText(1)), IllegalArgumentException.class);
        due(Look.state(x) + Look.report(x) + x.undoDepth(), busyState());
    }

    /** An order text that is right, on the busy pool, and makes one change more; answers the pool. */
    static LendingPool rightOrders(String text, int orders) {
        LendingPool x = busy();
        x.truncateText(0);
        due(Check.orders(x, text), orders);
        due(outcome(x, y -> y.truncateText(1)), IllegalArgumentException.class);
        due(x.undoDepth(), 5);
        return x;
    }
}
