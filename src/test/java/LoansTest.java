/** Promises 30 to 36: what is told of loans. */
public final class LoansTest {
    private static final Check CHECK = new Check();
    private static final int NONE = LendingPool.NONE;
    private static final String POOL = "pool 2 10;security 1000 3600;security 5 0;lender 0 100 0;lender 0 100 0;lender 0 100 0;"
        + "borrower 9999999;borrower 9999999;holding 0 0 100;holding 1 0 100;holding 2 0 100;holding 2 1 10;";

    public static void main(String[] args) {
        promise30OpenLoan();
        promise31Loan();
        promise32Slice();
        promise33DailyFee();
        promise34Recallable();
        promise35RecallOrder();
        promise36ReturnOrder();
        CHECK.end();
    }

    private static void promise30OpenLoan() {
        LendingPool x = Check.pool(POOL);
        CHECK.index("none", () -> x.openLoan(0));
        for (int i = 0; i < 4; i++) {
            x.borrow(0, 0, 1, 0);
        }
        x.returnShares(1, 1);
        CHECK.due("first", x.openLoan(0), 0);
        CHECK.due("second", x.openLoan(1), 2);
        CHECK.due("third", x.openLoan(2), 3);
        CHECK.index("no fourth", () -> x.openLoan(3));
        CHECK.index("negative", () -> x.openLoan(-1));
        x.returnShares(0, 1);
        CHECK.due("first", x.openLoan(0), 2);
    }

    /** Loan 1: 20 of lender 0, 100 of lender 1, 100 of lender 2; recalled: 5 of lender 0 (due 9), 7 of lender 2 (due 8). */
    private static LendingPool recalledLoan() {
        LendingPool x = Check.pool(POOL);
        x.passDays(6);
        x.borrow(0, 0, 80, 1);
        x.borrow(1, 0, 220, 77);
        x.recall(2, 0, 7);
        x.passDays(1);
        x.recall(0, 0, 5);
        return x;
    }

    private static void promise31Loan() {
        LendingPool x = recalledLoan();
        int[] due = {1, 0, 220, 77, 6, 12, 8, 3};
        for (int what = 0; what < due.length; what++) {
            CHECK.due("loan 1 " + what, x.loan(1, what), due[what]);
        }
        LendingPool y = Check.pool(POOL);
        y.borrow(0, 0, 101, 0);
        CHECK.due("a slice of one share is one", y.loan(0, 7), 2);
        int[] other = {0, 0, 80, 1, 6, 0, NONE, 1};
        for (int what = 0; what < other.length; what++) {
            CHECK.due("loan 0 " + what, x.loan(0, what), other[what]);
        }
        x.borrow(0, 1, 3, 0);
        CHECK.due("security", x.loan(2, 1), 1);
        CHECK.due("day", x.loan(2, 4), 7);
        CHECK.index("no loan", () -> x.loan(3, 9));
        CHECK.index("no loan", () -> x.loan(-1, 0));
        CHECK.argument("what 8", () -> x.loan(0, 8));
        CHECK.argument("what -1", () -> x.loan(0, -1));
        x.returnShares(0, 80);
        CHECK.index("a closed loan", () -> x.loan(0, 0));
    }

    private static void promise32Slice() {
        LendingPool x = recalledLoan();
        int[][] due = {{20, 5, 9}, {100, 0, NONE}, {100, 7, 8}};
        for (int l = 0; l < 3; l++) {
            for (int what = 0; what < 3; what++) {
                CHECK.due("slice " + l + " " + what, x.slice(1, l, what), due[l][what]);
            }
        }
        CHECK.due("no such slice", x.slice(0, 1, 0), 0);
        CHECK.due("no such slice", x.slice(0, 1, 1), 0);
        CHECK.due("no such slice", x.slice(0, 1, 2), NONE);
        CHECK.index("no loan", () -> x.slice(2, 0, 3));
        CHECK.index("no lender", () -> x.slice(0, 3, 3));
        CHECK.index("no lender", () -> x.slice(0, -1, 0));
        CHECK.argument("what 3", () -> x.slice(0, 0, 3));
        CHECK.argument("what -1", () -> x.slice(0, 0, -1));
        x.returnShares(1, 220);
        x.borrow(0, 0, 150, 0);
        CHECK.due("a new loan in the place of a closed one", Check.shares(x, 2), "0 100 50");
        CHECK.due("has no recalled shares", x.loan(2, 5), 0);
        CHECK.due("has no due day", x.loan(2, 6), NONE);
        x.recall(1, 0, 100);
        x.undo();
        x.undo();
        x.borrow(0, 0, 150, 0);
        CHECK.due("nor has one in the place of an undone one", Check.shares(x, 2) + "/" + x.loan(2, 5), "0 100 50/0");
        x.undo();
        CHECK.due("orders", Check.orders(x, "borrow 0 0 220 0;recall 1 0 60;"), 2);
        CHECK.due("recalled", x.loan(2, 5), 60);
        x.undo();
        x.borrow(0, 0, 150, 0);
        CHECK.due("nor after orders that were undone", Check.shares(x, 2) + "/" + x.loan(2, 5), "0 100 50/0");
    }

    private static void promise33DailyFee() {
        LendingPool x = recalledLoan();
        CHECK.due("80 * 3599 / 3600", x.dailyFee(0), 79L);
        // 20 * 3523 / 3600 = 19.57, 100 * 3523 / 3600 = 97.86, twice.
        CHECK.due("slice by slice", x.dailyFee(1), 213L);
        x.setRate(0, 0);
        CHECK.due("negative, truncated toward 0", x.dailyFee(0), 0L);
        CHECK.due("negative", x.dailyFee(1), -4L);
        long before = x.account(1, 1);
        x.passDays(1);
        CHECK.due("the next day brings it", x.account(1, 1) - before, 4L);
        CHECK.index("no loan", () -> x.dailyFee(2));
        CHECK.index("no loan", () -> x.dailyFee(-1));
    }

    private static void promise34Recallable() {
        LendingPool x = recalledLoan();
        CHECK.due("80 and 15", x.recallable(0, 0), 95);
        CHECK.due("100", x.recallable(1, 0), 100);
        CHECK.due("93", x.recallable(2, 0), 93);
        CHECK.due("the other security", x.recallable(2, 1), 0);
        CHECK.index("no lender", () -> x.recallable(3, 0));
        CHECK.index("no security", () -> x.recallable(0, 2));
        CHECK.index("negative", () -> x.recallable(-1, -1));
    }

    private static void promise35RecallOrder() {
        LendingPool x = Check.pool(POOL);
        int[] rebates = {5, 9, 5, 0, 9, 7};
        for (int rebate : rebates) {
            x.borrow(0, 0, 10, rebate);
        }
        x.borrow(0, 1, 1, 8);
        // All are equal at first, so lender 0 gives to loans 0 and 3, lender 1 to 1 and 4, lender 2 to 2 and 5.
        CHECK.due("lender 0", x.recallOrder(0, 0, 0), 0);
        CHECK.due("lender 0", x.recallOrder(0, 0, 1), 3);
        CHECK.index("lender 0 has two", () -> x.recallOrder(0, 0, 2));
        CHECK.due("the same rebate by number", x.recallOrder(1, 0, 0), 1);
        CHECK.due("the same rebate by number", x.recallOrder(1, 0, 1), 4);
        CHECK.due("the greatest rebate first", x.recallOrder(2, 0, 0), 5);
        CHECK.due("the greatest rebate first", x.recallOrder(2, 0, 1), 2);
        CHECK.due("another security", x.recallOrder(2, 1, 0), 6);
        CHECK.index("no loan of lender 0", () -> x.recallOrder(0, 1, 0));
        CHECK.index("negative index", () -> x.recallOrder(0, 0, -1));
        CHECK.index("no lender", () -> x.recallOrder(3, 0, 0));
        CHECK.index("no lender", () -> x.recallOrder(-1, 0, 0));
        CHECK.index("no lender", () -> x.recallOrder(6, 0, 0));
        CHECK.index("no security", () -> x.recallOrder(0, -1, 0));
        CHECK.index("no security", () -> x.recallOrder(0, 2, 0));
    }

    private static void promise36ReturnOrder() {
        LendingPool x = recalledLoan();
        // Recalled: lender 2 (due 8), lender 0 (due 9); the rest: 15, 100 and 93 shares.
        int[] due = {2, 0, 1, 2, 0};
        for (int i = 0; i < due.length; i++) {
            CHECK.due("index " + i, x.returnOrder(1, i), due[i]);
        }
        CHECK.index("no sixth", () -> x.returnOrder(1, 5));
        CHECK.index("negative", () -> x.returnOrder(1, -1));
        CHECK.index("extreme", () -> x.returnOrder(1, Integer.MAX_VALUE));
        CHECK.index("no loan", () -> x.returnOrder(2, 0));
        CHECK.index("no loan", () -> x.returnOrder(-1, 0));
        LendingPool y = Check.pool(POOL);
        y.borrow(0, 0, 300, 0);
        y.recall(1, 0, 100);
        y.recall(0, 0, 1);
        // The same due day goes by lender; lender 1 has no other shares and stands once.
        int[] same = {0, 1, 2, 0};
        for (int i = 0; i < same.length; i++) {
            CHECK.due("index " + i, y.returnOrder(0, i), same[i]);
        }
        CHECK.index("no fifth", () -> y.returnOrder(0, 4));
        CHECK.due("nothing was returned", y.loan(0, 2), 300);
    }
}
