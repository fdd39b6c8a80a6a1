/** Promises 19 to 29: what the pool tells of itself. */
public final class PoolTest {
    private static final Check CHECK = new Check();
    private static final String POOL = "pool 2 10;security 100 360;security 50 0;lender 50 100 15;lender 100 33 0;"
        + "lender 33 0 100;borrower 1000000;borrower 5000;holding 0 0 100;holding 1 0 100;holding 2 0 50;holding 1 1 2;";

    public static void main(String[] args) {
        promise19Count();
        promise20Security();
        promise21Lender();
        promise22Credit();
        promise23Holding();
        promise24OnLoan();
        promise25Available();
        promise26Pooled();
        promise27Utilization();
        promise28Exposure();
        promise29Account();
        CHECK.end();
    }

    private static void promise19Count() {
        LendingPool x = Check.pool(POOL);
        x.setPolicy(1);
        x.borrow(0, 0, 5, 0);
        x.borrow(0, 0, 5, 0);
        x.returnShares(0, 5);
        x.passDays(4);
        int[] due = {2, 3, 2, 1, 2, 4, 1, 2, 10};
        for (int what = 0; what < due.length; what++) {
            CHECK.due("count " + what, x.count(what), due[what]);
        }
        CHECK.argument("count 9", () -> x.count(9));
        CHECK.argument("count -1", () -> x.count(-1));
        CHECK.argument("count extreme", () -> x.count(Integer.MIN_VALUE));
    }

    private static void promise20Security() {
        LendingPool x = Check.pool(POOL);
        CHECK.due("price", x.security(0, 0), 100);
        CHECK.due("rate", x.security(0, 1), 360);
        CHECK.due("price", x.security(1, 0), 50);
        CHECK.due("rate", x.security(1, 1), 0);
        CHECK.index("no security", () -> x.security(2, 5));
        CHECK.index("no security", () -> x.security(-1, 0));
        CHECK.argument("what 2", () -> x.security(0, 2));
        CHECK.argument("what -1", () -> x.security(0, -1));
    }

    private static void promise21Lender() {
        LendingPool x = Check.pool(POOL);
        int[][] due = {{50, 100, 15}, {100, 33, 0}, {33, 0, 100}};
        for (int l = 0; l < 3; l++) {
            for (int what = 0; what < 3; what++) {
                CHECK.due("lender " + l + " " + what, x.lender(l, what), due[l][what]);
            }
        }
        CHECK.index("no lender", () -> x.lender(3, 3));
        CHECK.index("no lender", () -> x.lender(-1, 0));
        CHECK.argument("what 3", () -> x.lender(0, 3));
        CHECK.argument("what -1", () -> x.lender(0, -1));
    }

    private static void promise22Credit() {
        LendingPool x = Check.pool(POOL);
        CHECK.due("credit", x.credit(0), 1000000);
        CHECK.due("credit", x.credit(1), 5000);
        CHECK.index("no borrower", () -> x.credit(2));
        CHECK.index("no borrower", () -> x.credit(-1));
    }

    private static void wrongNumbers(String name, java.util.function.IntBinaryOperator call) {
        CHECK.index(name + " of no lender", () -> call.applyAsInt(3, 0));
        CHECK.index(name + " of no lender", () -> call.applyAsInt(-1, 0));
        CHECK.index(name + " of no security", () -> call.applyAsInt(0, 2));
        CHECK.index(name + " of no security", () -> call.applyAsInt(0, -1));
        CHECK.index(name + " of extremes", () -> call.applyAsInt(Integer.MAX_VALUE, Integer.MIN_VALUE));
    }

    private static void promise23Holding() {
        LendingPool x = Check.pool(POOL);
        CHECK.due("holding", x.holding(0, 0), 100);
        CHECK.due("holding", x.holding(2, 0), 50);
        CHECK.due("holding", x.holding(1, 1), 2);
        CHECK.due("none", x.holding(0, 1), 0);
        x.borrow(0, 0, 80, 0);
        CHECK.due("on loan or not", x.holding(0, 0), 100);
        wrongNumbers("holding", x::holding);
    }

    private static void promise24OnLoan() {
        LendingPool x = Check.pool(POOL);
        CHECK.due("none", x.onLoan(0, 0), 0);
        x.borrow(0, 0, 110, 0);
        x.borrow(1, 0, 5, 0);
        CHECK.due("lender 0", x.onLoan(0, 0), 100);
        CHECK.due("two loans of lender 1", x.onLoan(1, 0), 15);
        CHECK.due("lender 2", x.onLoan(2, 0), 0);
        CHECK.due("the other security", x.onLoan(0, 1), 0);
        x.recall(1, 0, 3);
        CHECK.due("recalled shares are on loan", x.onLoan(1, 0), 15);
        wrongNumbers("onLoan", x::onLoan);
    }

    private static void promise25Available() {
        LendingPool x = Check.pool(POOL);
        CHECK.due("limit 100", x.available(0, 0), 100);
        CHECK.due("limit 33", x.available(1, 0), 33);
        CHECK.due("33 percent of 2, truncated", x.available(1, 1), 0);
        CHECK.due("limit 0", x.available(2, 0), 0);
        x.borrow(0, 0, 60, 0);
        CHECK.due("less on loan", x.available(0, 0), 40);
        x.setLimit(0, 50);
        CHECK.due("at least 0", x.available(0, 0), 0);
        x.buyShares(0, 0, 101);
        CHECK.due("100 of 201 are lendable", x.available(0, 0), 40);
        wrongNumbers("available", x::available);
    }

    private static void promise26Pooled() {
        LendingPool x = Check.pool(POOL);
        CHECK.due("100 and 33", x.pooled(0), 133);
        CHECK.due("nothing", x.pooled(1), 0);
        x.borrow(0, 0, 60, 0);
        CHECK.due("less", x.pooled(0), 73);
        x.setLimit(0, 50);
        CHECK.due("a lender above its limit counts 0", x.pooled(0), 33);
        CHECK.index("no security", () -> x.pooled(2));
        CHECK.index("no security", () -> x.pooled(-1));
    }

    private static void promise27Utilization() {
        LendingPool x = Check.pool(POOL);
        CHECK.due("nothing", x.utilization(0), 0.0);
        x.borrow(0, 0, 110, 0);
        CHECK.due("110 of 250", x.utilization(0), 110.0 / 250.0);
        x.borrow(0, 0, 3, 0);
        CHECK.due("113 of 250", x.utilization(0), 113.0 / 250.0);
        CHECK.due("of the other one", x.utilization(1), 0.0);
        x.sellShares(1, 1, 2);
        CHECK.refused("without holdings", ArithmeticException.class, () -> x.utilization(1));
        CHECK.index("no security", () -> x.utilization(2));
        CHECK.index("no security", () -> x.utilization(-1));
    }

    private static void promise28Exposure() {
        LendingPool x = Check.pool(POOL);
        CHECK.due("nothing", x.exposure(0), 0L);
        x.setLimit(1, 100);
        x.borrow(0, 0, 110, 0);
        x.borrow(0, 1, 2, 0);
        x.borrow(1, 0, 3, 0);
        CHECK.due("11000 and 100", x.exposure(0), 11100L);
        CHECK.due("300", x.exposure(1), 300L);
        x.setPrice(0, 9999);
        CHECK.due("the present price", x.exposure(0), 1099990L);
        x.returnShares(0, 110);
        CHECK.due("open loans alone", x.exposure(0), 100L);
        CHECK.index("no borrower", () -> x.exposure(2));
        CHECK.index("no borrower", () -> x.exposure(-1));
        LendingPool y = Check.pool("pool 0 0;security 1 0;lender 0 100 0;lender 0 100 0;lender 0 100 0;borrower 9999999;"
            + "holding 0 0 99999;holding 1 0 99999;holding 2 0 99999;");
        y.borrow(0, 0, 99999, 0);
        y.borrow(0, 0, 99999, 0);
        y.borrow(0, 0, 99999, 0);
        y.setPrice(0, 9999);
        CHECK.due("beyond what int can hold", y.exposure(0), 2999670003L);
    }

    private static void promise29Account() {
        LendingPool x = Check.pool(POOL);
        x.borrow(0, 0, 133, 0);
        x.payDividend(0, 10);
        x.buyShares(2, 0, 1);
        x.sellShares(1, 1, 1);
        CHECK.due("lender 0", x.account(0, 0), 850L);
        CHECK.due("lender 1", x.account(0, 1), 380L);
        CHECK.due("lender 2", x.account(0, 2), -100L);
        CHECK.due("borrower 0", x.account(1, 0), -1330L);
        CHECK.due("borrower 1", x.account(1, 1), 0L);
        CHECK.due("agent", x.account(2, 0), 0L);
        CHECK.due("tax", x.account(3, 0), 150L);
        CHECK.due("market", x.account(4, 0), 50L);
        int[][] none = {{0, 3}, {0, -1}, {1, 2}, {1, -1}, {2, 1}, {2, -1}, {3, 1}, {4, 1}, {4, -1}, {5, 0}, {-1, 0}};
        for (int[] n : none) {
            CHECK.argument("account " + n[0] + " " + n[1], () -> x.account(n[0], n[1]));
        }
    }
}
