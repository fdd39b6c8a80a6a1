/** Promises 7 to 18: the changes. */
public final class ChangesTest {
    private static final Check CHECK = new Check();
    private static final int NONE = LendingPool.NONE;

    /** Available of security 0: 100, 50 and 50; of security 1 nothing. */
    private static final String POOL = "pool 2 10;security 100 360;security 50 0;lender 50 100 15;lender 100 50 0;"
        + "lender 33 100 100;borrower 1000000;borrower 5000;holding 0 0 100;holding 1 0 100;holding 2 0 50;";
    private static final String ALIKE = "pool 2 10;security 1 0;lender 0 100 0;lender 0 100 0;lender 0 100 0;"
        + "borrower 9999999;holding 0 0 100;holding 1 0 100;holding 2 0 100;";
    private static final String DEAR = "pool 1 25;security 1000 3600;lender 50 100 0;lender 33 100 0;"
        + "borrower 9999999;holding 0 0 1000;holding 1 0 1000;";

    public static void main(String[] args) {
        promise7BorrowByUse();
        promise7UseIsComparedExactly();
        promise7BorrowByPart();
        promise7BorrowByTurn();
        promise7Refusals();
        promise7OpenLoans();
        promise8ReturnShares();
        promise8Refusals();
        promise9Recall();
        promise9RecallByTurn();
        promise9RecallByPart();
        promise9PartlyRecalled();
        promise9DueDays();
        promise9Refusals();
        promise10Fees();
        promise10NegativeFees();
        promise10BuyIns();
        promise10BuyInsOfOneShare();
        promise10BuyInCloses();
        promise11PayDividend();
        promise12BuyShares();
        promise13SellShares();
        promise14SetPrice();
        promise15SetRate();
        promise16SetLimit();
        promise17SetPolicy();
        promise18RunOrders();
        promise18WrongOrders();
        promise18NothingChanges();
        CHECK.end();
    }

    private static void promise7BorrowByUse() {
        LendingPool x = Check.pool(POOL);
        CHECK.due("first loan", x.borrow(0, 0, 120, 10), 0);
        CHECK.due("equal use goes by number", Check.shares(x, 0), "100 20 0");
        CHECK.due("second loan", x.borrow(0, 0, 60, 20), 1);
        CHECK.due("the least used first", Check.shares(x, 1), "0 10 50");
        CHECK.due("borrower", x.loan(1, 0), 0);
        CHECK.due("security", x.loan(1, 1), 0);
        CHECK.due("quantity", x.loan(1, 2), 60);
        CHECK.due("rebate", x.loan(1, 3), 20);
        CHECK.state("fewer shares are available", () -> x.borrow(0, 0, 21, 0));
        CHECK.due("all that is available", x.borrow(1, 0, 20, 9999), 2);
        CHECK.due("shares", Check.shares(x, 2), "0 20 0");
        CHECK.due("accounts stay", Check.accounts(x), "0 0 0 0 0 0 0 0");
        CHECK.due("policy 0 serves no turn", x.lastServed(0), NONE);
    }

    private static void promise7UseIsComparedExactly() {
        LendingPool x = Check.pool("pool 0 0;security 1 0;lender 0 100 0;lender 0 100 0;borrower 9999999;"
            + "holding 0 0 99999;holding 1 0 3;");
        x.borrow(0, 0, 33333, 0);
        x.borrow(0, 0, 1, 0);
        CHECK.due("lender 1 was less used", Check.shares(x, 1), "0 1");
        x.borrow(0, 0, 1, 0);
        CHECK.due("one third is one third", Check.shares(x, 2), "1 0");
        x.borrow(0, 0, 1, 0);
        CHECK.due("a hundred-thousandth more", Check.shares(x, 3), "0 1");
        LendingPool y = Check.pool("pool 0 0;security 1 0;lender 0 100 0;lender 0 100 0;borrower 9999999;"
            + "holding 0 0 99999;holding 1 0 99998;");
        y.borrow(0, 0, 99998, 0);
        y.borrow(0, 0, 99997, 0);
        CHECK.due("the other lender", Check.shares(y, 1), "0 99997");
        CHECK.due("99997/99998 is below 99998/99999", y.rankedLender(0, 0), 1);
        y.borrow(0, 0, 1, 0);
        CHECK.due("beyond what int can hold", Check.shares(y, 2), "0 1");
    }

    private static void promise7BorrowByPart() {
        LendingPool x = Check.pool(POOL);
        x.setPolicy(1);
        x.borrow(0, 0, 7, 0);
        CHECK.due("the greatest rests", Check.shares(x, 0), "3 2 2");
        x.undo();
        x.borrow(0, 0, 2, 0);
        CHECK.due("of equal rests the lowest number", Check.shares(x, 0), "1 1 0");
        x.undo();
        x.borrow(0, 0, 1, 0);
        CHECK.due("one share", Check.shares(x, 0), "1 0 0");
        x.undo();
        x.borrow(0, 0, 200, 0);
        CHECK.due("all shares", Check.shares(x, 0), "100 50 50");
        LendingPool y = Check.pool("pool 0 0;security 1 0;lender 0 100 0;lender 0 100 0;borrower 9999999;"
            + "holding 0 0 99999;holding 1 0 99999;");
        y.setPolicy(1);
        y.borrow(0, 0, 99999, 0);
        CHECK.due("products beyond int", Check.shares(y, 0), "50000 49999");
        CHECK.due("policy 1 serves no turn", y.lastServed(0), NONE);
    }

    private static void promise7BorrowByTurn() {
        LendingPool x = Check.pool(POOL);
        x.setPolicy(2);
        x.borrow(0, 0, 30, 0);
        CHECK.due("at first lender 0", Check.shares(x, 0), "30 0 0");
        CHECK.due("last served", x.lastServed(0), 0);
        x.borrow(0, 0, 51, 0);
        CHECK.due("one share counts", x.lastServed(0), 2);
        x.undo();
        x.borrow(0, 0, 60, 0);
        CHECK.due("behind lender 0", Check.shares(x, 1), "0 50 10");
        CHECK.due("last served", x.lastServed(0), 2);
        x.borrow(0, 0, 80, 0);
        CHECK.due("round, and past one without shares", Check.shares(x, 2), "70 0 10");
        CHECK.due("last served", x.lastServed(0), 2);
        CHECK.due("another security has its own turn", x.lastServed(1), NONE);
        x.returnShares(1, 60);
        x.setPolicy(0);
        x.borrow(0, 0, 1, 0);
        CHECK.due("an allocation by use moves no turn", x.lastServed(0), 2);
    }

    private static void promise7Refusals() {
        LendingPool x = Check.pool(POOL);
        CHECK.index("no borrower", () -> x.borrow(2, 0, 0, 0));
        CHECK.index("no borrower", () -> x.borrow(-1, 0, 1, 0));
        CHECK.index("no security", () -> x.borrow(0, 2, 0, -1));
        CHECK.index("no security", () -> x.borrow(0, -1, 1, 0));
        CHECK.argument("quantity 0", () -> x.borrow(0, 0, 0, 0));
        CHECK.argument("quantity negative", () -> x.borrow(0, 0, -5, 0));
        CHECK.argument("quantity 100000", () -> x.borrow(0, 0, 100000, 0));
        CHECK.argument("rebate negative", () -> x.borrow(0, 0, 1, -1));
        CHECK.argument("rebate 10000", () -> x.borrow(0, 0, 1, 10000));
        CHECK.argument("rebate before the state", () -> x.borrow(0, 0, 201, 10000));
        CHECK.state("201 of 200 shares", () -> x.borrow(0, 0, 201, 0));
        CHECK.state("the greatest quantity", () -> x.borrow(0, 0, 99999, 0));
        CHECK.state("nothing available", () -> x.borrow(0, 1, 1, 0));
        CHECK.state("exposure above credit", () -> x.borrow(1, 0, 51, 0));
        CHECK.due("no loan was made", x.count(4), 0);
        CHECK.due("no change was made", x.undoDepth(), 0);
        CHECK.due("exposure as credit", x.borrow(1, 0, 50, 0), 0);
        CHECK.state("not one share more", () -> x.borrow(1, 0, 1, 0));
        x.setPrice(0, 99);
        CHECK.state("the present price counts: 5049 is above 5000", () -> x.borrow(1, 0, 1, 0));
        x.setPrice(0, 98);
        CHECK.due("4998 is not", x.borrow(1, 0, 1, 0), 1);
        CHECK.index("extremes", () -> x.borrow(Integer.MAX_VALUE, Integer.MIN_VALUE, 1, 1));
        CHECK.argument("extremes", () -> x.borrow(0, 0, Integer.MIN_VALUE, Integer.MAX_VALUE));
    }

    private static void promise7OpenLoans() {
        LendingPool x = Check.pool(POOL);
        for (int i = 0; i < 12; i++) {
            CHECK.due("loan " + i, x.borrow(0, 0, 1 + i, 0), i);
        }
        CHECK.state("a thirteenth open loan", () -> x.borrow(0, 0, 1, 0));
        CHECK.due("close one", x.returnShares(4, 5), 0);
        CHECK.due("numbers are not used again", x.borrow(0, 0, 1, 0), 12);
        CHECK.due("the order stays", x.openLoan(4), 5);
        CHECK.due("the last one", x.openLoan(11), 12);
        CHECK.due("loans ever made", x.count(4), 13);
    }

    /** A loan of 300 shares; recalled 30 of lender 0 (due 3), 20 of lender 1 (due 3), 50 of lender 2 (due 2). */
    private static LendingPool recalledFromAll() {
        LendingPool x = Check.pool(ALIKE);
        x.borrow(0, 0, 300, 0);
        x.recall(2, 0, 40);
        x.passDays(1);
        x.recall(1, 0, 20);
        x.recall(0, 0, 30);
        x.recall(2, 0, 10);
        return x;
    }

    private static void promise8ReturnShares() {
        LendingPool x = recalledFromAll();
        CHECK.due("the earliest due day first", x.returnShares(0, 60), 240);
        CHECK.due("shares", Check.shares(x, 0), "90 100 50");
        CHECK.due("not recalled any more", x.slice(0, 2, 1), 0);
        CHECK.due("no due day any more", x.slice(0, 2, 2), NONE);
        CHECK.due("recalled of lender 0", x.slice(0, 0, 1), 20);
        CHECK.due("due day of lender 0", x.slice(0, 0, 2), 3);
        CHECK.due("then the same due day by lender", x.returnShares(0, 25), 215);
        CHECK.due("shares", Check.shares(x, 0), "70 95 50");
        CHECK.due("the rest of the recalled ones", x.returnShares(0, 15), 200);
        CHECK.due("shares", Check.shares(x, 0), "70 80 50");
        CHECK.due("then the greatest slice", x.returnShares(0, 85), 115);
        CHECK.due("shares", Check.shares(x, 0), "65 0 50");
        CHECK.due("slices", x.loan(0, 7), 2);
        CHECK.due("all", x.returnShares(0, 115), 0);
        CHECK.due("the loan is closed", x.count(3), 0);
        CHECK.index("a closed loan", () -> x.returnShares(0, 1));
        LendingPool y = Check.pool(ALIKE);
        y.borrow(0, 0, 300, 0);
        y.returnShares(0, 150);
        CHECK.due("of equal slices the lowest lender", Check.shares(y, 0), "0 50 100");
        CHECK.due("available again", y.available(0, 0), 100);
    }

    private static void promise8Refusals() {
        LendingPool x = recalledFromAll();
        int depth = x.undoDepth();
        CHECK.index("no loan", () -> x.returnShares(1, 1));
        CHECK.index("no loan and no quantity", () -> x.returnShares(-1, 0));
        CHECK.argument("quantity 0", () -> x.returnShares(0, 0));
        CHECK.argument("quantity negative", () -> x.returnShares(0, -1));
        CHECK.argument("quantity above the loan", () -> x.returnShares(0, 301));
        CHECK.due("no change was made", x.undoDepth(), depth);
        CHECK.due("the whole loan at once", x.returnShares(0, 300), 0);
    }

    /** Loan 0: 60 of lender 0, rebate 5; loan 1: 100 of lender 1, 40 of lender 2, rebate 9; loan 2: 30 of lender 2, rebate 9. */
    private static LendingPool threeLoans() {
        LendingPool x = Check.pool(ALIKE);
        x.borrow(0, 0, 60, 5);
        x.borrow(0, 0, 140, 9);
        x.borrow(0, 0, 30, 9);
        return x;
    }

    private static void promise9Recall() {
        LendingPool x = threeLoans();
        CHECK.due("replaced", x.recall(2, 0, 60), 40);
        CHECK.due("loan 1 is replaced", Check.shares(x, 1), "40 100 0");
        CHECK.due("loan 1 has no slice of lender 2", x.loan(1, 7), 2);
        CHECK.due("loan 2 is recalled", Check.shares(x, 2), "0 0 30");
        CHECK.due("recalled", x.slice(2, 2, 1), 20);
        CHECK.due("due", x.slice(2, 2, 2), 2);
        CHECK.due("shares replaced so far", x.total(2), 40L);
        CHECK.due("the greatest rebate first", x.recall(0, 0, 50), 50);
        CHECK.due("loan 1", Check.shares(x, 1), "0 100 40");
        CHECK.due("loan 0", Check.shares(x, 0), "50 0 10");
        CHECK.due("shares replaced so far", x.total(2), 90L);
        CHECK.due("accounts stay", Check.accounts(x), "0 0 0 0 0 0 0");
    }

    private static void promise9RecallByTurn() {
        LendingPool x = threeLoans();
        x.recall(2, 0, 60);
        x.recall(0, 0, 50);
        x.setPolicy(2);
        CHECK.due("replaced", x.recall(1, 0, 5), 5);
        CHECK.due("loan 1", Check.shares(x, 1), "5 95 40");
        CHECK.due("last served", x.lastServed(0), 0);
        CHECK.due("replaced", x.recall(1, 0, 30), 30);
        CHECK.due("loan 1", Check.shares(x, 1), "15 65 60");
        CHECK.due("last served", x.lastServed(0), 0);
    }

    private static void promise9RecallByPart() {
        LendingPool x = Check.pool("pool 0 0;security 1 0;lender 0 100 0;lender 0 100 0;lender 0 100 0;borrower 999;"
            + "holding 0 0 50;holding 1 0 20;holding 2 0 10;");
        x.borrow(0, 0, 20, 1);
        x.borrow(0, 0, 20, 2);
        CHECK.due("lender 1 gave to the second", Check.shares(x, 1), "0 20 0");
        x.setPolicy(1);
        // Lender 0 has 30, lender 2 has 10: 7 * 30 / 40 = 5 rest 10, 7 * 10 / 40 = 1 rest 30.
        CHECK.due("replaced", x.recall(1, 0, 7), 7);
        CHECK.due("among the others alone", Check.shares(x, 1), "5 13 2");
    }

    private static void promise9PartlyRecalled() {
        LendingPool x = Check.pool("pool 3 0;security 1 0;lender 0 100 0;borrower 99;holding 0 0 30;");
        x.borrow(0, 0, 10, 1);
        x.borrow(0, 0, 20, 2);
        x.recall(0, 0, 15);
        CHECK.due("recalled of loan 1", x.loan(1, 5), 15);
        x.recall(0, 0, 8);
        CHECK.due("the rest of loan 1", x.loan(1, 5), 20);
        CHECK.due("and 3 of loan 0", x.loan(0, 5), 3);
        x.recall(0, 0, 7);
        CHECK.due("all of loan 0", x.loan(0, 5), 10);
        CHECK.due("the order stays", x.recallOrder(0, 0, 0), 1);
    }

    private static void promise9DueDays() {
        LendingPool x = recalledFromAll();
        CHECK.due("a due day stays", x.slice(0, 2, 2), 2);
        CHECK.due("recalled together", x.slice(0, 2, 1), 50);
        CHECK.due("present day plus notice", x.slice(0, 0, 2), 3);
        CHECK.due("recalled in all", x.loan(0, 5), 100);
        LendingPool y = Check.pool("pool 0 0;security 1 0;lender 0 100 0;borrower 9;holding 0 0 5;");
        y.passDays(7);
        y.borrow(0, 0, 5, 0);
        CHECK.due("alone", y.recall(0, 0, 3), 0);
        CHECK.due("notice 0", y.slice(0, 0, 2), 7);
        y.returnShares(0, 3);
        y.passDays(2);
        y.recall(0, 0, 1);
        CHECK.due("a new due day", y.slice(0, 0, 2), 9);
    }

    private static void promise9Refusals() {
        LendingPool x = threeLoans();
        CHECK.index("no lender", () -> x.recall(3, 0, 0));
        CHECK.index("no lender", () -> x.recall(-1, 0, 1));
        CHECK.index("no security", () -> x.recall(0, 1, 1));
        CHECK.index("no security", () -> x.recall(0, -1, 1));
        CHECK.argument("quantity 0", () -> x.recall(0, 0, 0));
        CHECK.argument("quantity 100000", () -> x.recall(0, 0, 100000));
        CHECK.state("61 of 60", () -> x.recall(0, 0, 61));
        x.recall(2, 0, 60);
        CHECK.state("11 of 10 that are not recalled", () -> x.recall(2, 0, 11));
        CHECK.due("the 10 that are not recalled", x.recall(2, 0, 10), 0);
        CHECK.state("all are recalled", () -> x.recall(2, 0, 1));
        CHECK.due("changes", x.undoDepth(), 5);
    }

    private static void promise10Fees() {
        LendingPool x = Check.pool(DEAR);
        x.borrow(0, 0, 1500, 0);
        CHECK.due("nothing bought in", x.passDays(1), 0);
        CHECK.due("fees of a day", Check.accounts(x), "500 165 -1500 835 0 0");
        CHECK.due("the day", x.count(5), 1);
        x.passDays(400);
        CHECK.due("fees of 401 days", Check.accounts(x), "200500 66165 -601500 334835 0 0");
        CHECK.due("all fees", x.total(0), 601500L);
        CHECK.due("the day", x.count(5), 401);
        CHECK.argument("no day", () -> x.passDays(0));
        CHECK.argument("days before", () -> x.passDays(-1));
        CHECK.argument("too many days", () -> x.passDays(401));
        CHECK.due("the day", x.count(5), 401);
        x.setPrice(0, 7);
        x.setRate(0, 1000);
        x.passDays(3);
        // 1000 * 7 * 1000 / 3600000 = 1, and half of it is 0; 500 * 7 * 1000 / 3600000 = 0.
        CHECK.due("each slice is truncated by itself", Check.accounts(x), "200500 66165 -601503 334838 0 0");
    }

    private static void promise10NegativeFees() {
        LendingPool x = Check.pool(DEAR);
        x.setRate(0, 0);
        x.borrow(0, 0, 1000, 7);
        x.passDays(1);
        CHECK.due("-1.94 is -1, and half of it is 0", Check.accounts(x), "0 0 1 -1 0 0");
        x.setRate(0, 3600);
        x.returnShares(0, 1000);
        x.borrow(0, 0, 1000, 3611);
        x.passDays(2);
        CHECK.due("-3.05 is -3, and half of it is -1", Check.accounts(x), "-2 0 7 -5 0 0");
        CHECK.due("all fees", x.total(0), -7L);
    }

    private static void promise10BuyIns() {
        LendingPool x = Check.pool(DEAR);
        x.borrow(0, 0, 2000, 0);
        CHECK.due("recalled", x.recall(0, 0, 300), 0);
        CHECK.due("the due day is not over", x.passDays(1), 0);
        CHECK.due("bought in", x.passDays(1), 300);
        CHECK.due("shares", Check.shares(x, 0), "700 1000");
        CHECK.due("not recalled any more", x.slice(0, 0, 1), 0);
        CHECK.due("no due day any more", x.slice(0, 0, 2), NONE);
        // Fees: 1000 and 1000 on both days; bought in: 300 * 1000 * 125 / 100 = 375000.
        CHECK.due("accounts", Check.accounts(x), "1000 660 -379000 2340 0 375000");
        CHECK.due("bought in so far", x.total(1), 300L);
        CHECK.due("available again", x.available(0, 0), 300);
        x.recall(1, 0, 100);
        CHECK.due("replaced, not bought in", x.passDays(1), 0);
        LendingPool y = Check.pool(DEAR);
        y.borrow(0, 0, 2000, 0);
        y.recall(0, 0, 300);
        CHECK.due("days at once", y.passDays(5), 300);
        // Lender 0: 1000 on two days, 700 on three; lender 1: 1000 on five.
        CHECK.due("accounts", Check.accounts(y), "2050 1650 -384100 5400 0 375000");
        LendingPool z = Check.pool("pool 0 25;security 1 0;lender 0 100 0;borrower 9;holding 0 0 5;");
        z.borrow(0, 0, 5, 0);
        z.recall(0, 0, 3);
        CHECK.due("notice 0: bought in on the next day", z.passDays(1), 3);
        CHECK.due("3.75 is 3", Check.accounts(z), "0 -3 0 0 3");
    }

    private static void promise10BuyInsOfOneShare() {
        LendingPool x = Check.pool("pool 0 50;security 2 0;lender 0 100 0;lender 0 100 0;borrower 99;borrower 99;holding 0 0 5;");
        x.borrow(1, 0, 3, 0);
        x.borrow(0, 0, 2, 0);
        x.recall(0, 0, 1);
        CHECK.due("one share", x.passDays(1), 1);
        CHECK.due("accounts", Check.accounts(x), "0 0 0 -3 0 0 3");
        CHECK.due("shares", Check.shares(x, 0), "2 0");
        x.buyShares(1, 0, 1);
        CHECK.due("one share is replaced", x.recall(0, 0, 2), 1);
        CHECK.due("shares", Check.shares(x, 0), "1 1");
        CHECK.due("recalled", x.slice(0, 0, 1), 1);
        CHECK.due("one share", x.passDays(1), 1);
        CHECK.due("accounts", Check.accounts(x), "0 -2 0 -6 0 0 8");
        CHECK.due("shares", Check.shares(x, 0), "0 1");
        CHECK.due("bought in so far", x.total(1), 2L);
    }

    private static void promise10BuyInCloses() {
        LendingPool x = Check.pool(ALIKE);
        x.borrow(0, 0, 200, 0);
        x.borrow(0, 0, 100, 0);
        x.recall(0, 0, 100);
        x.recall(1, 0, 100);
        CHECK.due("not yet", x.passDays(2), 0);
        CHECK.due("all of loan 0", x.passDays(1), 200);
        CHECK.due("one open loan", x.count(3), 1);
        CHECK.due("it is loan 1", x.openLoan(0), 1);
        CHECK.index("loan 0 is closed", () -> x.loan(0, 2));
        CHECK.due("it is whole", x.loan(1, 2), 100);
    }

    private static void promise11PayDividend() {
        LendingPool x = Check.pool("pool 0 0;security 1 0;security 1 0;lender 0 100 15;lender 0 100 100;borrower 999;borrower 99;"
            + "holding 0 0 33;holding 1 0 10;holding 0 1 10;");
        CHECK.due("without loans", x.payDividend(0, 9999), 0L);
        x.borrow(0, 0, 40, 0);
        x.borrow(1, 0, 3, 0);
        x.borrow(1, 1, 10, 0);
        CHECK.due("the sum", x.payDividend(0, 7), 301L);
        // 33 * 7 = 231, of which 196.35 go to lender 0; 7 * 7 = 49 and 3 * 7 = 21 go to the tax.
        CHECK.due("accounts", Check.accounts(x), "196 0 -280 -21 0 105 0");
        CHECK.due("fees stay", x.total(0), 0L);
        CHECK.due("the other security", x.payDividend(1, 1), 10L);
        CHECK.due("accounts", Check.accounts(x), "204 0 -280 -31 0 107 0");
        CHECK.index("no security", () -> x.payDividend(2, 0));
        CHECK.index("no security", () -> x.payDividend(-1, 1));
        CHECK.argument("amount 0", () -> x.payDividend(0, 0));
        CHECK.argument("amount 10000", () -> x.payDividend(0, 10000));
        CHECK.due("the greatest amount", x.payDividend(0, 9999), 429957L);
        LendingPool y = Check.pool("pool 0 0;security 1 0;lender 0 100 1;borrower 999999;holding 0 0 99999;");
        y.borrow(0, 0, 99999, 0);
        CHECK.due("great sums", y.payDividend(0, 9999), 999890001L);
        CHECK.due("accounts", Check.accounts(y), "989891100 -999890001 0 9998901 0");
    }

    private static void promise12BuyShares() {
        LendingPool x = Check.pool(POOL);
        CHECK.due("new holding", x.buyShares(0, 1, 7), 7);
        CHECK.due("new holding", x.buyShares(0, 1, 3), 10);
        CHECK.due("the lender pays", Check.accounts(x), "-500 0 0 0 0 0 0 500");
        CHECK.due("available", x.available(0, 1), 10);
        CHECK.state("above 99999", () -> x.buyShares(0, 1, 99990));
        CHECK.due("to 99999", x.buyShares(0, 1, 99989), 99999);
        CHECK.state("not one more", () -> x.buyShares(0, 1, 1));
        CHECK.index("no lender", () -> x.buyShares(3, 0, 0));
        CHECK.index("no security", () -> x.buyShares(0, 2, 0));
        CHECK.index("negative", () -> x.buyShares(-1, -1, 1));
        CHECK.argument("quantity 0", () -> x.buyShares(0, 0, 0));
        CHECK.argument("quantity 100000", () -> x.buyShares(0, 1, 100000));
        CHECK.due("changes", x.undoDepth(), 3);
    }

    private static void promise13SellShares() {
        LendingPool x = Check.pool(POOL);
        x.borrow(0, 0, 60, 0);
        CHECK.state("41 of 40 that are not on loan", () -> x.sellShares(0, 0, 41));
        CHECK.due("new holding", x.sellShares(0, 0, 30), 70);
        CHECK.due("the lender is paid", Check.accounts(x), "3000 0 0 0 0 0 0 -3000");
        CHECK.due("new holding", x.sellShares(0, 0, 10), 60);
        CHECK.state("all is on loan", () -> x.sellShares(0, 0, 1));
        CHECK.due("all", x.sellShares(2, 0, 50), 0);
        CHECK.due("beyond the limit", x.sellShares(1, 0, 100), 0);
        CHECK.index("no lender", () -> x.sellShares(3, 0, 0));
        CHECK.index("no security", () -> x.sellShares(0, 2, 0));
        CHECK.argument("quantity 0", () -> x.sellShares(0, 0, 0));
        CHECK.argument("quantity negative", () -> x.sellShares(0, 0, -5));
        CHECK.argument("quantity 100000", () -> x.sellShares(0, 0, 100000));
        CHECK.state("nothing held", () -> x.sellShares(0, 1, 1));
    }

    private static void promise14SetPrice() {
        LendingPool x = Check.pool(POOL);
        CHECK.due("previous", x.setPrice(1, 9999), 50);
        CHECK.due("previous", x.setPrice(1, 1), 9999);
        CHECK.due("price", x.security(1, 0), 1);
        CHECK.due("the other price", x.security(0, 0), 100);
        CHECK.index("no security", () -> x.setPrice(2, 0));
        CHECK.index("no security", () -> x.setPrice(-1, 1));
        CHECK.argument("price 0", () -> x.setPrice(0, 0));
        CHECK.argument("price 10000", () -> x.setPrice(0, 10000));
        x.borrow(1, 0, 50, 0);
        x.setPrice(0, 200);
        CHECK.due("exposure may be above credit", x.exposure(1), 10000L);
    }

    private static void promise15SetRate() {
        LendingPool x = Check.pool(POOL);
        CHECK.due("previous", x.setRate(0, 9999), 360);
        CHECK.due("previous", x.setRate(0, 0), 9999);
        CHECK.due("rate", x.security(0, 1), 0);
        CHECK.index("no security", () -> x.setRate(2, -1));
        CHECK.index("no security", () -> x.setRate(-1, 1));
        CHECK.argument("rate negative", () -> x.setRate(0, -1));
        CHECK.argument("rate 10000", () -> x.setRate(0, 10000));
    }

    private static void promise16SetLimit() {
        LendingPool x = Check.pool(POOL);
        CHECK.due("previous", x.setLimit(1, 33), 50);
        CHECK.due("available", x.available(1, 0), 33);
        CHECK.due("previous", x.setLimit(1, 0), 33);
        CHECK.due("available", x.available(1, 0), 0);
        CHECK.due("previous", x.setLimit(1, 100), 0);
        CHECK.due("available", x.available(1, 0), 100);
        CHECK.index("no lender", () -> x.setLimit(3, -1));
        CHECK.index("no lender", () -> x.setLimit(-1, 1));
        CHECK.argument("limit negative", () -> x.setLimit(0, -1));
        CHECK.argument("limit 101", () -> x.setLimit(0, 101));
    }

    private static void promise17SetPolicy() {
        LendingPool x = Check.pool(POOL);
        CHECK.due("previous", x.setPolicy(2), 0);
        CHECK.due("previous", x.setPolicy(1), 2);
        CHECK.due("previous", x.setPolicy(1), 1);
        CHECK.due("policy", x.count(6), 1);
        CHECK.argument("policy 3", () -> x.setPolicy(3));
        CHECK.argument("policy negative", () -> x.setPolicy(-1));
        CHECK.due("even a change of nothing counts", x.undoDepth(), 3);
    }

    private static void promise18RunOrders() {
        LendingPool x = Check.pool(POOL);
        CHECK.due("six orders", Check.orders(x, "borrow 0 0 150 60; return 0 20;\nrecall 0 0 70;pass 3;"
            + "price 0 200;dividend 0 2 ;"), 6);
        // Borrowed: 100 50 0; returned 20: 80 50 0; recalled 70: 50 by lender 2 at once, 20 later and bought in.
        CHECK.due("shares", Check.shares(x, 0), "10 50 50");
        CHECK.due("price", x.security(0, 0), 200);
        CHECK.due("day", x.count(5), 3);
        CHECK.due("bought in", x.total(1), 20L);
        CHECK.due("accounts", Check.accounts(x), "17 100 0 -2420 0 0 103 2200");
        CHECK.argument("the buffer is empty", () -> x.truncateText(1));
        CHECK.due("one change", x.undoDepth(), 1);
        CHECK.due("undo", x.undo(), 0);
        CHECK.due("nothing is left", x.count(3) + x.count(4) + x.count(5), 0);
        CHECK.due("price", x.security(0, 0), 100);
        CHECK.due("accounts", Check.accounts(x), "0 0 0 0 0 0 0 0");
        x.buyShares(1, 1, 8);
        CHECK.due("other numbers", Check.orders(x, "borrow 0 1 4 7;borrow 1 0 30 8;recall 0 0 30;recall 1 1 3;recall 1 0 2;price 1 33;dividend 1 2;return 0 1;"), 8);
        CHECK.due("report", Check.report(x), "day 0 loans 2\nloan 0 of 3 1:3-2\nloan 1 of 30 0:2 1:28\n");
        CHECK.due("accounts", Check.accounts(x), "0 -392 0 -8 0 0 0 400");
        CHECK.due("prices", x.security(0, 0) + x.security(1, 0), 133);
        CHECK.due("undo", x.undo() + x.undo(), 1);
        CHECK.due("without tokens", Check.orders(x, ""), 0);
        CHECK.due("without tokens", Check.orders(x, " \n "), 0);
        CHECK.due("changes, too", x.undoDepth(), 2);
        CHECK.due("many", Check.orders(x, "pass 1;".repeat(85)), 85);
        CHECK.due("day", x.count(5), 85);
        CHECK.due("without blanks", Check.orders(x, "pass1;price1 1;"), 2);
    }

    private static void wrong(String text, int position) {
        LendingPool x = Check.pool(POOL);
        CHECK.due("runOrders of " + text, Check.orders(x, text), -1 - position);
        CHECK.due("undoDepth after " + text, x.undoDepth(), 0);
        CHECK.argument("buffer after " + text, () -> x.truncateText(1));
    }

    private static void promise18WrongOrders() {
        wrong("pass 0;", 0);
        wrong("pass 401;", 0);
        wrong(" pass 9999999;", 1);
        wrong("pass 12345678;", 5);
        wrong("pass 00000001;", 5);
        wrong("pass;", 4);
        wrong("pass", 4);
        wrong("pass 1", 6);
        wrong("pass 1  ", 8);
        wrong("pass 1 2;", 7);
        wrong("pass x;", 5);
        wrong("pass -1;", 5);
        wrong("pass 1;;", 7);
        wrong("pass 1;x", 7);
        wrong("pass 1;pass 0;", 7);
        wrong("pass 1; pass 0", 14);
        wrong("passs 1;", 0);
        wrong("pas 1;", 0);
        wrong("Pass 1;", 0);
        wrong("1;", 0);
        wrong("pool 1 1;", 0);
        wrong("\u00ff", 0);
        wrong("pass\t1;", 4);
        wrong("borrow 2 0 1 1;", 0);
        wrong("borrow 0 0 0 1;", 0);
        wrong("borrow 0 0 201 1;", 0);
        wrong("borrow 0 0 1;", 12);
        wrong("borrow 0 0 1 1 1;", 15);
        wrong("return 0 1;", 0);
        wrong("borrow 0 0 5 1;return 0 6;", 15);
        wrong("borrow 0 0 5 1;return 0 5;return 0 1;", 26);
        wrong("recall 0 0 1;", 0);
        wrong("recall 3 0 1;", 0);
        wrong("price 0 0;", 0);
        wrong("price 2 1;", 0);
        wrong("price 2 1", 9);
        wrong("borrow 0 0 5 1;price 0 0;", 15);
        wrong("borrow 0 0 5 1;recall 0 0 6;", 15);
        wrong("price 2 10000000;", 8);
        wrong("dividend 0 0;", 0);
        wrong("dividend 2 1;", 0);
        wrong("dividend 0 1;\ndividend 0 10000;", 14);
    }

    private static void promise18NothingChanges() {
        LendingPool x = Check.pool(POOL);
        x.borrow(0, 0, 10, 0);
        for (int i = 0; i < 10; i++) {
            x.setPrice(1, 1 + i);
        }
        CHECK.due("wrong at last", Check.orders(x, "borrow 0 0 5 5;pass 5;price 0 1;recall 0 0 5;return 0 1;dividend 0 5;x"), -70);
        CHECK.due("report", Check.report(x), "day 0 loans 1\nloan 0 of 10 0:10\n");
        CHECK.due("accounts", Check.accounts(x), "0 0 0 0 0 0 0 0");
        CHECK.due("price", x.security(0, 0), 100);
        CHECK.due("changes", x.undoDepth(), 10);
        for (int i = 9; i >= 0; i--) {
            CHECK.due("undo", x.undo(), i);
            CHECK.due("price", x.security(1, 0), i == 0 ? 50 : i);
        }
    }
}
