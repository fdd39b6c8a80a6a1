/** Promises 37 to 47: what would be. */
public final class ThoughtTest {
    private static final Check CHECK = new Check();
    private static final String POOL = "pool 2 10;security 100 3600;security 50 0;lender 50 100 15;lender 100 50 0;"
        + "lender 33 100 100;borrower 1000000;borrower 5000;holding 0 0 100;holding 1 0 100;holding 2 0 50;";

    public static void main(String[] args) {
        promise37Quote();
        promise38Borrowable();
        promise38BorrowableFull();
        promise39WouldReplace();
        promise40FewestLoans();
        promise41And42Tightest();
        promise41And42Among12();
        promise43AccountAfter();
        promise44BoughtInAfter();
        promise45FirstBuyIn();
        promise46BreakingPrice();
        promise47BestPolicy();
        CHECK.end();
    }

    private static String quotes(LendingPool x, int quantity) {
        return x.quote(0, quantity, 0) + " " + x.quote(0, quantity, 1) + " " + x.quote(0, quantity, 2);
    }

    private static void promise37Quote() {
        LendingPool x = Check.pool(POOL);
        CHECK.due("by use", quotes(x, 120), "100 20 0");
        x.setPolicy(1);
        CHECK.due("by part", quotes(x, 7), "3 2 2");
        CHECK.due("by part", quotes(x, 2), "1 1 0");
        CHECK.due("all", quotes(x, 200), "100 50 50");
        LendingPool y = Check.pool("pool 0 0;security 1 0;lender 0 100 0;lender 0 100 0;borrower 99;holding 1 0 1;");
        y.setPolicy(1);
        CHECK.due("the only share", y.quote(0, 1, 0) + " " + y.quote(0, 1, 1), "0 1");
        x.setPolicy(2);
        CHECK.due("by turn", quotes(x, 110), "100 10 0");
        CHECK.due("nobody was served", x.lastServed(0), LendingPool.NONE);
        x.borrow(0, 0, 110, 0);
        CHECK.due("behind lender 1", quotes(x, 60), "0 10 50");
        CHECK.state("91 of 90", () -> x.quote(0, 91, 0));
        CHECK.state("none", () -> x.quote(1, 1, 0));
        CHECK.argument("quantity 0", () -> x.quote(0, 0, 0));
        CHECK.argument("quantity 100000", () -> x.quote(0, 100000, 0));
        CHECK.index("no lender", () -> x.quote(0, 0, 3));
        CHECK.index("no lender", () -> x.quote(0, 91, -1));
        CHECK.index("no security", () -> x.quote(2, 0, 0));
        CHECK.due("changes", x.undoDepth(), 3);
    }

    private static void promise38Borrowable() {
        LendingPool x = Check.pool(POOL);
        CHECK.due("what is available", x.borrowable(0, 0), 200);
        CHECK.due("what the credit allows", x.borrowable(1, 0), 50);
        CHECK.due("nothing available", x.borrowable(0, 1), 0);
        x.setPrice(0, 99);
        CHECK.due("truncated", x.borrowable(1, 0), 50);
        x.setPrice(0, 101);
        CHECK.due("truncated", x.borrowable(1, 0), 49);
        x.borrow(1, 0, 49, 0);
        CHECK.due("51 is left of the credit", x.borrowable(1, 0), 0);
        x.setPrice(0, 9999);
        CHECK.due("exposure above credit", x.borrowable(1, 0), 0);
        x.setPrice(0, 1);
        CHECK.due("the rest", x.borrowable(1, 0), 151);
        CHECK.index("no borrower", () -> x.borrowable(2, 0));
        CHECK.index("no borrower", () -> x.borrowable(-1, 0));
        CHECK.index("no security", () -> x.borrowable(0, 2));
        CHECK.index("no security", () -> x.borrowable(0, -1));
        LendingPool y = Check.pool("pool 0 0;security 1 0;lender 0 100 0;lender 0 100 0;borrower 9999999;"
            + "holding 0 0 99999;holding 1 0 99999;");
        CHECK.due("a quantity has its limit", y.borrowable(0, 0), 99999);
        LendingPool z = Check.pool("pool 0 0;security 1 0;lender 0 100 0;borrower 3;holding 0 0 9;");
        z.borrow(0, 0, 2, 0);
        CHECK.due("room for one", z.borrowable(0, 0), 1);
        z.borrow(0, 0, 1, 0);
        CHECK.due("room for none", z.borrowable(0, 0), 0);
    }

    private static void promise38BorrowableFull() {
        LendingPool x = Check.pool(POOL);
        for (int i = 0; i < 12; i++) {
            CHECK.due("before loan " + i, x.borrowable(0, 0), 200 - i);
            x.borrow(0, 0, 1, 0);
        }
        CHECK.due("with 12 open loans", x.borrowable(0, 0), 0);
        x.returnShares(3, 1);
        CHECK.due("with 11 open loans", x.borrowable(0, 0), 189);
    }

    private static void promise39WouldReplace() {
        LendingPool x = Check.pool(POOL);
        x.borrow(0, 0, 160, 5);
        CHECK.due("loan", Check.shares(x, 0), "100 50 10");
        CHECK.due("all", x.wouldReplace(0, 0, 40), 40);
        CHECK.due("some", x.wouldReplace(0, 0, 100), 40);
        CHECK.due("all", x.wouldReplace(1, 0, 1), 1);
        CHECK.due("none", x.wouldReplace(2, 0, 10), 0);
        CHECK.due("nothing changes", Check.shares(x, 0), "100 50 10");
        CHECK.due("nothing is recalled", x.total(3) + x.total(2), 0L);
        CHECK.due("no change", x.undoDepth(), 1);
        CHECK.state("11 of 10", () -> x.wouldReplace(2, 0, 11));
        CHECK.argument("quantity 0", () -> x.wouldReplace(2, 0, 0));
        CHECK.argument("quantity 100000", () -> x.wouldReplace(2, 0, 100000));
        CHECK.index("no lender", () -> x.wouldReplace(3, 0, 0));
        CHECK.index("no security", () -> x.wouldReplace(0, 2, 0));
        CHECK.due("recall does it", x.recall(0, 0, 100), 40);
        x.setPolicy(2);
        x.wouldReplace(1, 0, 1);
        CHECK.due("nobody is served in thought", x.lastServed(0), LendingPool.NONE);
    }

    /** One lender; open loans of these quantities, one after the other. */
    private static LendingPool loansOf(int... quantities) {
        LendingPool x = Check.pool("pool 2 0;security 1 0;security 1 0;lender 0 100 0;lender 0 100 0;borrower 9999999;"
            + "holding 0 0 99999;holding 0 1 99;");
        for (int quantity : quantities) {
            x.borrow(0, 0, quantity, 0);
        }
        return x;
    }

    private static void promise40FewestLoans() {
        LendingPool x = loansOf(10, 40, 20, 30);
        x.borrow(0, 1, 99, 0);
        CHECK.due("1", x.fewestLoans(0, 0, 1), 1);
        CHECK.due("40", x.fewestLoans(0, 0, 40), 1);
        CHECK.due("41", x.fewestLoans(0, 0, 41), 2);
        CHECK.due("70", x.fewestLoans(0, 0, 70), 2);
        CHECK.due("71", x.fewestLoans(0, 0, 71), 3);
        CHECK.due("100", x.fewestLoans(0, 0, 100), 4);
        CHECK.element("101", () -> x.fewestLoans(0, 0, 101));
        CHECK.element("a lender without slices", () -> x.fewestLoans(1, 0, 1));
        x.recall(0, 0, 45);
        // Recalled: all of loan 0 and 35 of loan 1.
        CHECK.due("55", x.fewestLoans(0, 0, 55), 3);
        CHECK.due("50", x.fewestLoans(0, 0, 50), 2);
        CHECK.element("56", () -> x.fewestLoans(0, 0, 56));
        CHECK.argument("quantity 0", () -> x.fewestLoans(0, 0, 0));
        CHECK.argument("quantity 100000", () -> x.fewestLoans(0, 0, 100000));
        CHECK.index("no lender", () -> x.fewestLoans(2, 0, 0));
        CHECK.index("no security", () -> x.fewestLoans(0, 2, 0));
        CHECK.due("the loans stay", x.loan(0, 2), 10);
    }

    private static void tightest(LendingPool x, int quantity, int sum, int set) {
        CHECK.due("tightestLoans " + quantity, x.tightestLoans(0, 0, quantity), set);
        CHECK.due("tightestSum " + quantity, x.tightestSum(0, 0, quantity), sum);
    }

    private static void promise41And42Tightest() {
        LendingPool x = loansOf(10, 40, 20, 30, 25);
        tightest(x, 1, 10, 1);
        tightest(x, 11, 20, 4);
        tightest(x, 41, 45, 20);
        tightest(x, 50, 50, 3);
        tightest(x, 30, 30, 8);
        tightest(x, 60, 60, 6);
        tightest(x, 70, 70, 10);
        tightest(x, 125, 125, 31);
        tightest(x, 116, 125, 31);
        x.returnShares(0, 10);
        // The loans are now 40, 20, 30 and 25, at the places 0 to 3.
        tightest(x, 50, 50, 6);
        tightest(x, 41, 45, 10);
        x.recall(0, 0, 5);
        // Loan 1 has 35 that are not recalled.
        tightest(x, 50, 50, 6);
        tightest(x, 31, 35, 1);
        CHECK.element("111", () -> x.tightestSum(0, 0, 111));
        CHECK.element("111", () -> x.tightestLoans(0, 0, 111));
        CHECK.element("a lender without slices", () -> x.tightestSum(1, 0, 1));
        CHECK.element("a security without loans", () -> x.tightestLoans(0, 1, 1));
        CHECK.argument("quantity 0", () -> x.tightestSum(0, 0, 0));
        CHECK.argument("quantity 100000", () -> x.tightestSum(0, 0, 100000));
        CHECK.argument("quantity 0", () -> x.tightestLoans(0, 0, 0));
        CHECK.argument("quantity 100000", () -> x.tightestLoans(0, 0, 100000));
        CHECK.index("no lender", () -> x.tightestSum(2, 0, 0));
        CHECK.index("no security", () -> x.tightestSum(0, 2, 0));
        CHECK.index("no lender", () -> x.tightestLoans(-1, 0, 0));
        CHECK.index("no security", () -> x.tightestLoans(0, -1, 0));
    }

    private static void promise41And42Among12() {
        LendingPool x = loansOf(1, 2, 4, 8, 16, 32, 64, 128, 256, 512, 1024, 2048);
        for (int quantity : new int[] {1, 5, 2047, 2048, 3333, 4095}) {
            tightest(x, quantity, quantity, quantity);
        }
        LendingPool y = loansOf(7, 7, 7, 7, 7, 7, 7, 7, 7, 7, 7, 7);
        tightest(y, 8, 14, 3);
        tightest(y, 78, 84, 4095);
        LendingPool z = loansOf(3, 3, 6, 6);
        tightest(z, 6, 6, 4);
        tightest(z, 9, 9, 5);
        LendingPool w = loansOf(1, 2, 3, 4);
        tightest(w, 5, 5, 6);
        tightest(w, 8, 8, 13);
        tightest(w, 6, 6, 10);
    }

    private static void promise43AccountAfter() {
        LendingPool x = Check.pool("pool 1 25;security 1000 3600;lender 50 100 0;lender 33 100 0;"
            + "borrower 9999999;holding 0 0 1000;holding 1 0 1000;");
        x.borrow(0, 0, 2000, 0);
        x.recall(0, 0, 300);
        CHECK.due("now", x.accountAfter(0, 1, 0), 0L);
        CHECK.due("a day", x.accountAfter(1, 1, 0), -2000L);
        CHECK.due("the buy-in", x.accountAfter(2, 1, 0), -379000L);
        CHECK.due("lender 0 after 5 days", x.accountAfter(5, 0, 0), 2050L);
        CHECK.due("lender 1 after 5 days", x.accountAfter(5, 0, 1), 1650L);
        CHECK.due("the agent after 5 days", x.accountAfter(5, 2, 0), 5400L);
        CHECK.due("the tax", x.accountAfter(5, 3, 0), 0L);
        CHECK.due("the market", x.accountAfter(400, 4, 0), 375000L);
        CHECK.due("the borrower after 400 days", x.accountAfter(400, 1, 0), -379000L - 398 * 1700);
        CHECK.due("no day has passed", x.count(5), 0);
        CHECK.due("nothing is paid", Check.accounts(x), "0 0 0 0 0 0");
        CHECK.due("no change", x.undoDepth(), 2);
        CHECK.argument("days -1", () -> x.accountAfter(-1, 0, 0));
        CHECK.argument("days 401", () -> x.accountAfter(401, 0, 0));
        CHECK.argument("no lender", () -> x.accountAfter(1, 0, 2));
        CHECK.argument("no borrower", () -> x.accountAfter(1, 1, 1));
        CHECK.argument("no agent", () -> x.accountAfter(1, 2, 1));
        CHECK.argument("no kind", () -> x.accountAfter(1, 5, 0));
        CHECK.argument("no kind", () -> x.accountAfter(1, -1, 0));
    }

    /** Recalled: 40 of lender 0, due 2; a day later 50 of lender 2, due 3. */
    private static LendingPool recalledTwice() {
        LendingPool x = Check.pool(POOL);
        x.borrow(0, 0, 200, 5);
        x.recall(0, 0, 40);
        x.passDays(1);
        x.recall(2, 0, 50);
        return x;
    }

    private static void promise44BoughtInAfter() {
        LendingPool x = recalledTwice();
        CHECK.due("a day", x.boughtInAfter(1), 0);
        CHECK.due("two days", x.boughtInAfter(2), 40);
        CHECK.due("three days", x.boughtInAfter(3), 90);
        CHECK.due("400 days", x.boughtInAfter(400), 90);
        CHECK.due("nothing was bought in", x.total(1), 0L);
        CHECK.due("it is recalled", x.total(3), 90L);
        CHECK.argument("days 0", () -> x.boughtInAfter(0));
        CHECK.argument("days -1", () -> x.boughtInAfter(-1));
        CHECK.argument("days 401", () -> x.boughtInAfter(401));
        CHECK.due("passDays does it", x.passDays(3), 90);
        CHECK.due("nothing more", x.boughtInAfter(400), 0);
    }

    private static void promise45FirstBuyIn() {
        LendingPool x = recalledTwice();
        CHECK.due("due 2 on day 1", x.firstBuyIn(), 2);
        x.passDays(1);
        CHECK.due("due 2 on day 2", x.firstBuyIn(), 1);
        x.passDays(1);
        CHECK.due("due 3 on day 3", x.firstBuyIn(), 1);
        x.passDays(1);
        CHECK.element("nothing is recalled", () -> x.firstBuyIn());
        LendingPool y = Check.pool("pool 30 0;security 1 0;lender 0 100 0;borrower 9;holding 0 0 5;");
        CHECK.element("no loan", () -> y.firstBuyIn());
        y.borrow(0, 0, 2, 0);
        y.borrow(0, 0, 2, 9);
        CHECK.element("nothing is recalled", () -> y.firstBuyIn());
        y.recall(0, 0, 2);
        CHECK.due("notice 30", y.firstBuyIn(), 31);
        y.passDays(4);
        y.recall(0, 0, 1);
        CHECK.due("loan 1 is due first, then loan 0", y.firstBuyIn(), 27);
        y.returnShares(1, 2);
        CHECK.due("loan 0 alone", y.firstBuyIn(), 31);
        y.borrow(0, 0, 1, 5);
        CHECK.due("loan 2 is not recalled", y.firstBuyIn(), 31);
        y.passDays(2);
        y.recall(0, 0, 1);
        CHECK.due("loan 0 is due first, then loan 2", y.firstBuyIn(), 29);
    }

    private static void promise46BreakingPrice() {
        LendingPool x = Check.pool(POOL);
        CHECK.element("no loan", () -> x.breakingPrice(1, 0));
        x.borrow(1, 0, 40, 0);
        CHECK.due("40 * 126 is above 5000", x.breakingPrice(1, 0), 126);
        x.setPrice(0, 9999);
        CHECK.due("whatever the price is", x.breakingPrice(1, 0), 126);
        CHECK.due("the other price is enough", x.breakingPrice(1, 1), 1);
        x.setPrice(0, 125);
        CHECK.element("as the credit is not above it", () -> x.breakingPrice(1, 1));
        CHECK.element("another borrower", () -> x.breakingPrice(0, 0));
        x.borrow(0, 0, 100, 0);
        CHECK.element("100 * 9999 is below 1000000", () -> x.breakingPrice(0, 0));
        x.borrow(0, 0, 1, 0);
        CHECK.due("101 * 9901 is above it", x.breakingPrice(0, 0), 9901);
        x.buyShares(0, 1, 10);
        x.returnShares(0, 40);
        x.borrow(1, 1, 10, 0);
        x.borrow(1, 0, 10, 0);
        CHECK.due("4500 are left", x.breakingPrice(1, 0), 451);
        CHECK.due("3750 are left", x.breakingPrice(1, 1), 376);
        CHECK.index("no borrower", () -> x.breakingPrice(2, 0));
        CHECK.index("no security", () -> x.breakingPrice(0, 2));
        CHECK.index("negative", () -> x.breakingPrice(-1, -1));
        LendingPool y = Check.pool("pool 0 0;security 1 0;lender 0 100 0;borrower 0;borrower 9998;borrower 9999;holding 0 0 5;");
        CHECK.element("credit 0 and no loan", () -> y.breakingPrice(0, 0));
        y.borrow(1, 0, 1, 0);
        y.borrow(2, 0, 1, 0);
        CHECK.due("the greatest price", y.breakingPrice(1, 0), 9999);
        CHECK.element("above the greatest price", () -> y.breakingPrice(2, 0));
    }

    private static void promise47BestPolicy() {
        LendingPool x = Check.pool(POOL);
        // By use and by turn 100 20 0, by part 60 30 30.
        CHECK.due("by part", x.bestPolicy(0, 120), 1);
        CHECK.due("all policies give all", x.bestPolicy(0, 200), 0);
        CHECK.due("one share", x.bestPolicy(0, 1), 0);
        x.setPolicy(2);
        x.borrow(0, 0, 100, 0);
        // On loan 100 0 0. By use 50 shares: 100 50 0; by part 25 and 25; by turn as by use.
        CHECK.due("by part", x.bestPolicy(0, 50), 1);
        x.borrow(0, 0, 20, 0);
        // On loan 100 20 0, free 0 30 50: by use lender 2 gives 20, by part 7 and 13 (rests 40 and 40), by turn lender 2.
        CHECK.due("by use", x.bestPolicy(0, 20), 0);
        CHECK.due("nobody was served", x.lastServed(0), 1);
        LendingPool y = Check.pool("pool 0 0;security 1 0;lender 0 100 0;lender 0 100 0;borrower 999;"
            + "holding 0 0 10;holding 1 0 100;");
        y.setPolicy(2);
        y.borrow(0, 0, 6, 0);
        y.borrow(0, 0, 20, 0);
        // On loan 6 20, free 4 80: by use lender 1 (0.2), by part 0 and 4, by turn lender 0.
        CHECK.due("by turn", y.bestPolicy(0, 4), 2);
        CHECK.state("85 of 84", () -> y.bestPolicy(0, 85));
        CHECK.argument("quantity 0", () -> y.bestPolicy(0, 0));
        CHECK.argument("quantity 100000", () -> y.bestPolicy(0, 100000));
        CHECK.index("no security", () -> y.bestPolicy(1, 0));
        CHECK.index("no security", () -> y.bestPolicy(-1, 1));
        LendingPool z = Check.pool("pool 0 0;security 1 0;");
        CHECK.state("no lender", () -> z.bestPolicy(0, 1));
    }
}
