/** The sections 1 to 4, 6 and 7 of the Description, sentence by sentence. */
final class EdgesOfRules extends Edge {
    private EdgesOfRules() {
    }

    @Says(at = "What it is", words = "An object is used for at most 512 calls after it has been made")
    static void whatItIs_512Calls() {
        LendingPool x = lone(0, 0);
        // lone() makes 6 calls: four of appendText, one of truncateText, one of parsePool.
        x.borrow(0, 0, 1, 0);
        for (int call = 8; call <= 511; call++) {
            x.passDays(400);
        }
        due(x.count(5), 504 * 400);
    }

    @Says(at = "What it is", words = "fees, rebates and manufactured dividends are divided exactly")
    static void whatItIs_dividedExactly() {
        // A fee of 1 a day and a rebate of 1 a day, half of which is nobody's, and a dividend of 1 with 15 percent tax.
        LendingPool x = Check.pool("pool 0 0;security 100 3600;lender 50 100 15;borrower 9999999;holding 0 0 1000;");
        x.borrow(0, 0, 10, 0);
        x.passDays(3);
        due(Check.accounts(x), "0 -3 3 0 0");
        x.borrow(0, 0, 10, 7200);
        x.passDays(2);
        due(Check.accounts(x), "0 -3 3 0 0");
        x.returnShares(0, 10);
        x.passDays(1);
        due(Check.accounts(x), "0 -2 2 0 0");
        x.returnShares(1, 9);
        x.payDividend(0, 1);
        due(Check.accounts(x), "0 -3 2 1 0");
    }

    @Says(at = "Constants", words = "`NONE = -1`: There is no such number.")
    static void constants_none() {
        due(LendingPool.NONE, -1);
        answers(-1, Edge::small, x -> x.lastServed(0));
    }

    // ---- section 1

    @Says(at = "Section 1", words = "There are at most 4 securities, 6 lenders and 4 borrowers, each numbered from 0.")
    static void section1_atMost4Securities6Lenders4Borrowers() {
        LendingPool x = full();
        due(x.count(0) + " " + x.count(1) + " " + x.count(2), "4 6 4");
        due(x.security(0, 0) + " " + x.security(3, 0), "11 14");
        due(x.lender(0, 0) + " " + x.lender(5, 0), "10 60");
        due(x.credit(0) + " " + x.credit(3), "100001 100004");
        index(Edge::full, y -> y.security(4, 0), y -> y.security(-1, 0), y -> y.lender(6, 0), y -> y.lender(-1, 0),
            y -> y.credit(4), y -> y.credit(-1));
        index(Edge::empty, y -> y.security(0, 0), y -> y.lender(0, 0), y -> y.credit(0));
        wrong("pool 0 0;" + "security 1 1;".repeat(5), 5, 9 + 4 * 13);
        wrong("pool 0 0;" + "lender 1 1 1;".repeat(7), 5, 9 + 6 * 13);
        wrong("pool 0 0;" + "borrower 1;".repeat(5), 5, 9 + 4 * 11);
    }

    /** Ten shares are borrowed and four recalled at once. */
    private static LendingPool recalledUnder(int notice) {
        LendingPool x = lone(notice, 0);
        x.borrow(0, 0, 10, 0);
        x.recall(0, 0, 4);
        return x;
    }

    @Says(at = "Section 1", words = "a notice (0 to 30 days)")
    static void section1_notice0To30() {
        LendingPool x = recalledUnder(0);
        due(x.slice(0, 0, 2), 0);
        due(x.passDays(1), 4);
        LendingPool y = recalledUnder(30);
        due(y.slice(0, 0, 2), 30);
        due(y.passDays(30), 0);
        due(y.passDays(1), 4);
        due(right("pool 30 0;", 1).count(7), 30);
        wrong("pool 31 0;", 2, 5);
        wrong("pool 9999999 0;", 2, 5);
    }

    @Says(at = "Section 1", words = "a penalty (0 to 100 percent)")
    static void section1_penalty0To100() {
        int[] penalties = {0, 1, 99, 100};
        long[] costs = {700, 707, 1393, 1400};
        for (int i = 0; i < 4; i++) {
            LendingPool x = lone(0, penalties[i]);
            x.borrow(0, 0, 10, 0);
            x.recall(0, 0, 7);
            due(x.passDays(1), 7);
            due(x.account(1, 0) + " " + x.account(4, 0), -costs[i] + " " + costs[i]);
        }
        due(right("pool 0 100;", 1).count(8), 100);
        wrong("pool 0 101;", 2, 7);
    }

    @Says(at = "Section 1", words = "a policy (0 to 2; 0 at first)")
    static void section1_policy0To2() {
        answers(0, Edge::empty, x -> x.count(6));
        answers(0, Edge::small, x -> x.count(6));
        LendingPool x = small();
        for (int policy = 0; policy <= 2; policy++) {
            x.setPolicy(policy);
            due(x.count(6), policy);
        }
        argument(Edge::busy, y -> y.setPolicy(3), y -> y.setPolicy(-1));
        Check.parse(x, SMALL);
        due(x.count(6), 0);
    }

    @Says(at = "Section 1", words = "a day (0 at first)")
    static void section1_day0AtFirst() {
        answers(0, Edge::empty, x -> x.count(5));
        LendingPool x = small();
        due(x.count(5), 0);
        x.passDays(1);
        due(x.count(5), 1);
        Check.parse(x, SMALL);
        due(x.count(5), 0);
        x.borrow(0, 0, 1, 0);
        due(x.loan(0, 4), 0);
    }

    @Says(at = "Section 1", words = "a price (1 to 9999)")
    static void section1_price1To9999() {
        LendingPool x = right("pool 0 0;security 1 0;security 9999 0;", 3);
        due(x.security(0, 0) + " " + x.security(1, 0), "1 9999");
        wrong("pool 0 0;security 0 0;", 2, 18);
        wrong("pool 0 0;security 10000 0;", 2, 18);
        argument(Edge::busy, y -> y.setPrice(0, 0), y -> y.setPrice(0, 10000));
        due(rightOrders("price 0 1;price 1 9999;", 2).security(1, 0), 9999);
        wrongOrders("price 0 0;", 0);
        wrongOrders("price 0 10000;", 0);
    }

    @Says(at = "Section 1", words = "a rate (0 to 9999, in hundredths of a percent per year)")
    static void section1_rate0To9999() {
        LendingPool x = right("pool 0 0;security 1 0;security 1 9999;", 3);
        due(x.security(0, 1) + " " + x.security(1, 1), "0 9999");
        wrong("pool 0 0;security 1 10000;", 2, 20);
        argument(Edge::busy, y -> y.setRate(0, -1), y -> y.setRate(0, 10000));
        LendingPool y = Check.pool("pool 0 0;security 1000 9999;lender 0 100 0;borrower 9999999;holding 0 0 3600;");
        y.borrow(0, 0, 3600, 0);
        y.passDays(360);
        // 99.99 percent of 3600000.
        due(y.total(0), 3599640);
        y.setRate(0, 0);
        y.passDays(1);
        due(y.total(0), 3599640);
    }

    /** Two lenders that differ in one property give ten shares each, which bring a fee of 1 a day each. */
    private static LendingPool twoLenders(String first, String second) {
        return Check.pool("pool 0 0;security 100 3600;lender " + first + ";lender " + second
            + ";borrower 9999999;holding 0 0 10;holding 1 0 10;");
    }

    @Says(at = "Section 1", words = "a split (0 to 100 percent)")
    static void section1_split0To100() {
        LendingPool x = twoLenders("0 100 0", "100 100 0");
        due(x.lender(0, 0) + " " + x.lender(1, 0), "0 100");
        x.borrow(0, 0, 20, 0);
        x.passDays(1);
        due(Check.accounts(x), "0 1 -2 1 0 0");
        wrong("pool 0 0;lender 101 0 0;", 2, 16);
    }

    @Says(at = "Section 1", words = "a limit (0 to 100 percent)")
    static void section1_limit0To100() {
        LendingPool x = twoLenders("0 0 0", "0 100 0");
        due(x.lender(0, 1) + " " + x.lender(1, 1), "0 100");
        due(x.available(0, 0) + " " + x.available(1, 0), "0 10");
        wrong("pool 0 0;lender 0 101 0;", 2, 18);
        argument(Edge::busy, y -> y.setLimit(0, 101), y -> y.setLimit(0, -1));
    }

    @Says(at = "Section 1", words = "a tax (0 to 100 percent)")
    static void section1_tax0To100() {
        LendingPool x = twoLenders("0 100 0", "0 100 100");
        due(x.lender(0, 2) + " " + x.lender(1, 2), "0 100");
        x.borrow(0, 0, 20, 0);
        x.payDividend(0, 3);
        due(Check.accounts(x), "30 0 -60 0 30 0");
        wrong("pool 0 0;lender 0 0 101;", 2, 20);
    }

    @Says(at = "Section 1", words = "a borrower has a credit (0 to 9999999)")
    static void section1_credit0To9999999() {
        Make make = () -> Check.pool("pool 0 0;security 4649 0;lender 0 100 0;borrower 0;borrower 9999999;holding 0 0 99999;");
        state(make, x -> x.borrow(0, 0, 1, 0));
        LendingPool x = make.pool();
        due(x.credit(0) + " " + x.credit(1), "0 9999999");
        // 2151 * 4649 is 9999999.
        due(x.borrow(1, 0, 2151, 0), 0);
        due(x.exposure(1), 9999999);
        due(outcome(x, y -> y.borrow(1, 0, 1, 0)), IllegalStateException.class);
        wrong("pool 0 0;borrower 10000000;", 2, 18);
    }

    @Says(at = "Section 1", words = "A lender has a holding of each security (0 to 99999 shares; 0 at first).")
    static void section1_holding0To99999() {
        LendingPool x = right("pool 0 0;security 1 0;security 1 0;lender 0 0 0;lender 0 0 0;holding 0 0 99999;"
            + "holding 1 1 0;", 7);
        due(x.holding(0, 0) + " " + x.holding(0, 1) + " " + x.holding(1, 0) + " " + x.holding(1, 1), "99999 0 0 0");
        wrong("pool 0 0;security 1 0;lender 0 0 0;holding 0 0 100000;", 2, 47);
        due(outcome(x, y -> y.buyShares(0, 0, 1)), IllegalStateException.class);
        due(x.buyShares(1, 1, 99999), 99999);
        due(x.sellShares(0, 0, 99999), 0);
        due(outcome(x, y -> y.sellShares(0, 0, 1)), IllegalStateException.class);
    }

    @Says(at = "Section 1", words = "a rebate (0 to 9999, like a rate)")
    static void section1_rebate0To9999() {
        LendingPool x = small();
        x.borrow(0, 0, 1, 0);
        x.borrow(0, 0, 1, 9999);
        due(x.loan(0, 3) + " " + x.loan(1, 3), "0 9999");
        argument(Edge::busy, y -> y.borrow(0, 0, 1, -1), y -> y.borrow(0, 0, 1, 10000));
    }

    @Says(at = "Section 1", words = "the day on which it was made, and slices")
    static void section1_aLoanHasNothingOfAnOldOne() {
        // Loan 0 of borrower 1 in security 1, with recalled shares, is closed, undone and closed again.
        LendingPool x = small();
        x.buyShares(2, 1, 10);
        x.borrow(1, 1, 10, 77);
        x.recall(2, 1, 4);
        x.passDays(2);
        String before = Look.state(x);
        x.returnShares(0, 10);
        x.borrow(0, 0, 101, 5);
        due(x.loan(1, 0) + " " + x.loan(1, 1) + " " + x.loan(1, 3) + " " + x.loan(1, 4), "0 0 5 2");
        due(slices(x, 1) + " due " + x.loan(1, 6), "100-0 1-0 0-0 due -1");
        x.undo();
        x.undo();
        due(Look.state(x), before);
        due(x.loan(0, 0) + " " + x.loan(0, 1) + " " + x.loan(0, 3) + " " + x.loan(0, 4), "1 1 77 0");
        due(slices(x, 0) + " due " + x.loan(0, 6), "0-0 0-0 10-4 due 2");
        LendingPool y = small();
        y.borrow(0, 0, 200, 0);
        y.recall(0, 0, 50);
        y.undo();
        y.undo();
        y.borrow(1, 0, 7, 3);
        due(slices(y, 0) + " due " + y.loan(0, 6), "7-0 0-0 0-0 due -1");
        y.undo();
        due(Check.orders(y, "borrow 0 0 200 0;recall 0 0 50;"), 2);
        due(slices(y, 0) + " due " + y.loan(0, 6), "100-50 50-0 50-0 due 2");
        y.undo();
        y.borrow(1, 0, 50, 3);
        due(slices(y, 0) + " due " + y.loan(0, 6), "50-0 0-0 0-0 due -1");
    }

    @Says(at = "Section 1", words = "a slice is a number of shares of one lender, above 0")
    static void section1_sliceAbove0() {
        LendingPool x = small();
        x.borrow(0, 0, 101, 0);
        due(Check.shares(x, 0) + "/" + x.loan(0, 7), "100 1 0/2");
        x.returnShares(0, 100);
        due(Check.shares(x, 0) + "/" + x.loan(0, 7), "0 1 0/1");
        // Lender 0 replaces the only share of lender 1, whose slice is none any more.
        due(x.recall(1, 0, 1), 1);
        due(Check.shares(x, 0) + "/" + x.loan(0, 7), "1 0 0/1");
        LendingPool y = held(5, 5);
        y.borrow(0, 0, 10, 0);
        y.recall(0, 0, 5);
        due(y.loan(0, 7), 2);
        y.passDays(3);
        due(Check.shares(y, 0) + "/" + y.loan(0, 7), "0 5/1");
    }

    @Says(at = "Section 1", words = "Loans are numbered from 0 in the order in which they were made; numbers are not used again.")
    static void section1_numbersAreNotUsedAgain() {
        LendingPool x = small();
        due(x.borrow(0, 0, 5, 0) + " " + x.borrow(1, 0, 6, 9), "0 1");
        x.returnShares(1, 6);
        due(x.borrow(0, 0, 7, 0), 2);
        due(outcome(x, y -> y.loan(1, 2)), IndexOutOfBoundsException.class);
        x.returnShares(0, 5);
        x.returnShares(2, 7);
        due(x.count(3) + " of " + x.count(4), "0 of 3");
        due(x.borrow(0, 0, 1, 0), 3);
        due(outcome(x, y -> y.borrow(0, 0, 200, 0)), IllegalStateException.class);
        due(x.borrow(0, 0, 1, 0), 4);
    }

    @Says(at = "Section 1", words = "A loan whose quantity becomes 0 is closed; the others are open.")
    static void section1_closedAtQuantity0() {
        LendingPool x = small();
        x.borrow(0, 0, 5, 0);
        due(x.returnShares(0, 4), 1);
        due(x.count(3) + " " + x.loan(0, 2), "1 1");
        due(x.returnShares(0, 1), 0);
        due(x.count(3), 0);
        due(outcome(x, y -> y.loan(0, 2)), IndexOutOfBoundsException.class);
        LendingPool y = lone(0, 0);
        y.borrow(0, 0, 2, 0);
        y.recall(0, 0, 1);
        due(y.passDays(1) + " " + y.count(3), "1 1");
        y.recall(0, 0, 1);
        due(y.passDays(1) + " " + y.count(3), "1 0");
    }

    @Says(at = "Section 1", words = "There are at most 12 open loans.")
    static void section1_atMost12OpenLoans() {
        due(full().count(3), 12);
        state(Edge::full, x -> x.borrow(0, 0, 1, 0));
        LendingPool x = full();
        due(Check.orders(x, "borrow 0 0 1 0;"), -1);
        due(Check.orders(x, "return 0 50;borrow 0 0 1 0;"), 2);
        due(x.count(3) + " of " + x.count(4), "12 of 13");
        due(Check.orders(x, "return 1 50;borrow 0 0 1 0;borrow 0 0 1 0;"), -1 - 27);
    }

    @Says(at = "Section 1", words = "What a lender has available of a security is holding * limit / 100, truncated, minus the"
        + " shares on loan, but at least 0.")
    static void section1_availableTruncatedAndAtLeast0() {
        LendingPool x = Check.pool("pool 0 0;security 1 0;lender 0 33 0;lender 0 99 0;borrower 9999999;"
            + "holding 0 0 3;holding 1 0 99999;");
        // 0.99 and 98999.01, then 1.32.
        due(x.available(0, 0) + " " + x.available(1, 0), "0 98999");
        x.buyShares(0, 0, 1);
        due(x.available(0, 0), 1);
        LendingPool y = small();
        y.borrow(0, 0, 60, 0);
        int[] limits = {100, 61, 60, 59, 0};
        int[] free = {40, 1, 0, 0, 0};
        for (int i = 0; i < limits.length; i++) {
            y.setLimit(0, limits[i]);
            due(y.available(0, 0) + " " + y.pooled(0), free[i] + " " + (free[i] + 100));
        }
        due(outcome(y, z -> z.borrow(0, 0, 101, 0)), IllegalStateException.class);
        due(y.borrow(0, 0, 100, 0), 1);
        // A lender that has lent one share too many takes nothing from what the others have, with any policy.
        for (int policy = 0; policy <= 2; policy++) {
            LendingPool z = held(10, 10, 10);
            z.borrow(0, 0, 6, 0);
            z.setLimit(0, 50);
            z.setPolicy(policy);
            due(z.available(0, 0) + " " + z.quote(0, 20, 0) + " " + z.quote(0, 20, 1) + " " + z.quote(0, 20, 2), "0 0 10 10");
            due(z.recall(0, 0, 6) + " " + z.pooled(0), "6 19");
        }
    }

    // ---- section 2

    @Says(at = "Section 2", words = "Allocation of a number of shares of a security (at most the sum of what is available) to the"
        + " lenders, by policy")
    static void section2_atMostWhatIsAvailable() {
        for (int policy = 0; policy <= 2; policy++) {
            LendingPool x = small();
            x.setPolicy(policy);
            due(outcome(x, y -> y.borrow(0, 0, 201, 0)), IllegalStateException.class);
            due(outcome(x, y -> y.quote(0, 201, 0)), IllegalStateException.class);
            due(x.borrow(0, 0, 200, 0), 0);
            due(Check.shares(x, 0), "100 50 50");
            due(outcome(x, y -> y.borrow(0, 0, 1, 0)), IllegalStateException.class);
        }
    }

    @Says(at = "Section 2", words = "0: the lenders that have shares available are ordered by shares on loan / holding of this"
        + " security (compared exactly), those that are equal by ascending number")
    static void section2_useIsComparedExactly() {
        LendingPool x = held(99999, 3);
        x.borrow(0, 0, 33333, 0);
        String[] shares = {"0 1", "1 0", "0 1", "1 0"};
        // 33333/99999 and 0/3; 33333/99999 and 1/3; 33334/99999 and 1/3; 33334/99999 and 2/3.
        for (int i = 0; i < shares.length; i++) {
            x.borrow(0, 0, 1, 0);
            due(Check.shares(x, i + 1), shares[i]);
        }
        LendingPool y = held(99998, 99999);
        y.borrow(0, 0, 99996, 0);
        y.borrow(0, 0, 99998, 0);
        // Lender 0 has given 99996 of 99998, lender 1 has given 99998 of 99999.
        due(Check.shares(y, 1), "0 99998");
        y.borrow(0, 0, 1, 0);
        // 99997/99998 is below 99998/99999 by one part in 9999700002.
        y.borrow(0, 0, 1, 0);
        due(Check.shares(y, 2) + ", " + Check.shares(y, 3), "1 0, 1 0");
        // 1/1 is above 3/4.
        LendingPool z = held(1, 4);
        z.borrow(0, 0, 1, 0);
        z.borrow(0, 0, 3, 0);
        due(z.rankedLender(0, 0) + " " + z.rankedLender(0, 1), "1 0");
    }

    @Says(at = "Section 2", words = "each one in turn gives as many shares as it has available, but not more than are still needed")
    static void section2_notMoreThanAreStillNeeded() {
        LendingPool x = held(10, 10, 10);
        x.borrow(0, 0, 10, 0);
        due(Check.shares(x, 0) + "/" + x.loan(0, 7), "10 0 0/1");
        x.borrow(0, 0, 11, 0);
        due(Check.shares(x, 1), "0 10 1");
        x.borrow(0, 0, 9, 0);
        due(Check.shares(x, 2), "0 0 9");
        due(x.pooled(0), 0);
    }

    /** The shares of one loan with policy 1 from lenders with these holdings. */
    private static String byPart(int quantity, int... holdings) {
        LendingPool x = held(holdings);
        x.setPolicy(1);
        x.borrow(0, 0, quantity, 0);
        return Check.shares(x, 0);
    }

    @Says(at = "Section 2", words = "1: each lender gives number * available / sum of all available, truncated")
    static void section2_partsAreTruncated() {
        due(byPart(3, 10, 20), "1 2");
        due(byPart(30, 10, 20), "10 20");
        // 29 * 10 / 30 is 9.67 and 29 * 20 / 30 is 19.33.
        due(byPart(29, 10, 20), "10 19");
        // 28 * 10 / 30 is 9.33 and 28 * 20 / 30 is 18.67.
        due(byPart(28, 10, 20), "9 19");
        due(byPart(1, 0, 1), "0 1");
        due(byPart(99999, 99999, 99999), "50000 49999");
        due(byPart(99999, 99999, 99999, 99999, 99999, 99999, 99999), "16667 16667 16667 16666 16666 16666");
    }

    @Says(at = "Section 2", words = "the shares still needed come one each from the lenders with the greatest remainders of these"
        + " divisions, of equal ones the lowest number")
    static void section2_greatestRemaindersOfEqualOnesTheLowest() {
        due(byPart(1, 1, 1, 1), "1 0 0");
        due(byPart(2, 1, 1, 1), "1 1 0");
        due(byPart(3, 1, 1, 1), "1 1 1");
        due(byPart(1, 1, 2, 2), "0 1 0");
        due(byPart(2, 1, 2, 2), "0 1 1");
        // 3 * 1 / 5 leaves 3, 3 * 2 / 5 leaves 1.
        due(byPart(3, 1, 2, 2), "1 1 1");
        due(byPart(5, 3, 3, 3, 3, 3, 3), "1 1 1 1 1 0");
        due(byPart(1, 0, 0, 0, 0, 0, 1), "0 0 0 0 0 1");
    }

    @Says(at = "Section 2", words = "beginning behind the lender that gave shares last in an allocation of this security with policy 2,"
        + " and going on with number 0 behind the last one (at first beginning with number 0)")
    static void section2_turnsGoRound() {
        LendingPool x = held(10, 10, 10);
        x.setPolicy(2);
        String[] shares = {"4 0 0", "0 4 0", "0 0 4", "4 0 0"};
        for (int i = 0; i < shares.length; i++) {
            x.borrow(0, 0, 4, 0);
            due(Check.shares(x, i) + "/" + x.lastServed(0), shares[i] + "/" + i % 3);
        }
        // 2, 6 and 6 are left, and lender 1 is next.
        x.borrow(0, 0, 13, 0);
        due(Check.shares(x, 4) + "/" + x.lastServed(0), "1 6 6/0");
        // Lender 0 alone has a share left: the turn goes past the others.
        x.borrow(0, 0, 1, 0);
        due(Check.shares(x, 5) + "/" + x.lastServed(0), "1 0 0/0");
        LendingPool y = held(5, 5, 5, 5, 5, 5);
        y.setPolicy(2);
        y.borrow(0, 0, 26, 0);
        due(Check.shares(y, 0) + "/" + y.lastServed(0), "5 5 5 5 5 1/5");
        y.returnShares(0, 25);
        // Lender 5 keeps its share; behind it lender 0 is next.
        due(Check.shares(y, 0), "0 0 0 0 0 1");
        y.borrow(0, 0, 1, 0);
        due(Check.shares(y, 1) + "/" + y.lastServed(0), "1 0 0 0 0 0/0");
    }

    // ---- section 3

    /** A loan of 300 shares; recalled 40 of lender 2, due on day 2, and 20 of lender 1 and 30 of lender 0, due on day 3. */
    private static LendingPool recalledOfThree() {
        LendingPool x = held(100, 100, 100);
        x.borrow(0, 0, 300, 0);
        x.recall(2, 0, 40);
        x.passDays(1);
        x.recall(1, 0, 20);
        x.recall(0, 0, 30);
        return x;
    }

    private static String slices(LendingPool x, int loan) {
        StringBuilder text = new StringBuilder();
        for (int l = 0; l < x.count(1); l++) {
            text.append(l == 0 ? "" : " ").append(x.slice(loan, l, 0)).append('-').append(x.slice(loan, l, 1));
        }
        return text.toString();
    }

    @Says(at = "Section 3", words = "first recalled shares are returned, slice by slice, ordered by due day, those with the same due"
        + " day by ascending lender")
    static void section3_recalledSharesFirst() {
        LendingPool x = recalledOfThree();
        int[] parts = {39, 1, 1, 29, 1, 19};
        String[] left = {"100-30 100-20 61-1", "100-30 100-20 60-0", "99-29 100-20 60-0", "70-0 100-20 60-0",
            "70-0 99-19 60-0", "70-0 80-0 60-0"};
        for (int i = 0; i < parts.length; i++) {
            x.returnShares(0, parts[i]);
            due(slices(x, 0), left[i]);
        }
        LendingPool y = recalledOfThree();
        y.returnShares(0, 71);
        due(slices(y, 0), "70-0 99-19 60-0");
    }

    @Says(at = "Section 3", words = "then the other ones, slice by slice, ordered by the number of shares that the slice still has,"
        + " the greatest first, of equal ones the lowest lender")
    static void section3_thenTheGreatestSlice() {
        LendingPool x = held(100, 100, 100);
        x.borrow(0, 0, 300, 0);
        String[] left = {"99 100 100", "99 99 100", "99 99 99", "98 99 99"};
        for (String shares : left) {
            x.returnShares(0, 1);
            due(Check.shares(x, 0), shares);
        }
        LendingPool y = held(100, 60);
        y.borrow(0, 0, 160, 0);
        y.recall(0, 0, 50);
        // Lender 0 still has 50 when its recalled shares are back, and so lender 1 with 60 is next.
        y.returnShares(0, 51);
        due(Check.shares(y, 0), "50 59");
        y.returnShares(0, 60);
        due(Check.shares(y, 0), "49 0");
        // Six slices with one recalled share and another one each are returned in twelve steps, all but the last.
        LendingPool z = held(2, 2, 2, 2, 2, 2);
        z.borrow(0, 0, 12, 0);
        for (int l = 0; l < 6; l++) {
            z.recall(l, 0, 1);
        }
        due(z.returnShares(0, 11), 1);
        due(slices(z, 0), "0-0 0-0 0-0 0-0 0-0 1-0");
        z.undo();
        due(z.returnShares(0, 12) + " " + z.count(3), "0 0");
    }

    @Says(at = "Section 3", words = "A recalled share that is returned is not recalled any more. A slice without recalled shares has"
        + " no due day.")
    static void section3_noDueDayWithoutRecalledShares() {
        LendingPool x = recalledOfThree();
        due(x.slice(0, 2, 2) + " " + x.loan(0, 6) + " " + x.total(3), "2 2 90");
        x.returnShares(0, 39);
        due(x.slice(0, 2, 2) + " " + x.loan(0, 6) + " " + x.total(3), "2 2 51");
        x.returnShares(0, 1);
        due(x.slice(0, 2, 2) + " " + x.loan(0, 6) + " " + x.total(3), "-1 3 50");
        x.returnShares(0, 50);
        due(x.slice(0, 0, 2) + " " + x.slice(0, 1, 2) + " " + x.loan(0, 6) + " " + x.total(3), "-1 -1 -1 0");
        due(x.recallable(2, 0), 60);
        due(x.passDays(400), 0);
        due(recalledOfThree().slice(0, 1, 2), 3);
    }

    /** Four loans of ten shares of the only lender, with the rebates 5, 9999, 9999 and 0. */
    private static LendingPool fourRebates() {
        LendingPool x = lone(2, 0);
        for (int rebate : new int[] {5, 9999, 9999, 0}) {
            x.borrow(0, 0, 10, rebate);
        }
        return x;
    }

    private static String recalled(LendingPool x) {
        return x.loan(0, 5) + " " + x.loan(1, 5) + " " + x.loan(2, 5) + " " + x.loan(3, 5);
    }

    @Says(at = "Section 3", words = "the open loans with a slice of this lender in this security are ordered by rebate, the greatest"
        + " first, loans with the same rebate by ascending number")
    static void section3_greatestRebateFirst() {
        LendingPool x = fourRebates();
        int[] parts = {10, 10, 10, 10};
        String[] due = {"0 10 0 0", "0 10 10 0", "10 10 10 0", "10 10 10 10"};
        for (int i = 0; i < parts.length; i++) {
            due(x.recall(0, 0, parts[i]), 0);
            due(recalled(x), due[i]);
        }
    }

    @Says(at = "Section 3", words = "from each slice as many shares as possible that are not recalled yet are taken, but not more than"
        + " are still wanted")
    static void section3_notMoreThanAreStillWanted() {
        LendingPool x = fourRebates();
        int[] parts = {1, 9, 11, 18, 1};
        String[] due = {"0 1 0 0", "0 10 0 0", "1 10 10 0", "10 10 10 9", "10 10 10 10"};
        for (int i = 0; i < parts.length; i++) {
            x.recall(0, 0, parts[i]);
            due(recalled(x), due[i]);
        }
        due(outcome(x, y -> y.recall(0, 0, 1)), IllegalStateException.class);
    }

    /** Lender 0 has lent all of its ten shares, the others have four and five available. */
    private static LendingPool nineOfOthers() {
        LendingPool x = held(10, 4, 5);
        x.borrow(0, 0, 10, 0);
        return x;
    }

    @Says(at = "Section 3", words = "as many as the other lenders together have available are replaced at once: they are allocated (see"
        + " section 2) to the other lenders alone")
    static void section3_asManyAsTheOthersHave() {
        int[] wanted = {8, 9, 10};
        int[] replaced = {8, 9, 9};
        String[] due = {"2-0 4-0 4-0", "1-0 4-0 5-0", "1-1 4-0 5-0"};
        for (int i = 0; i < 3; i++) {
            LendingPool x = nineOfOthers();
            due(x.recall(0, 0, wanted[i]), replaced[i]);
            due(slices(x, 0), due[i]);
        }
        LendingPool y = nineOfOthers();
        y.recall(0, 0, 9);
        due(y.recall(0, 0, 1), 0);
        due(slices(y, 0), "1-1 4-0 5-0");
        LendingPool z = held(20, 0);
        z.borrow(0, 0, 10, 0);
        // The ten that lender 0 itself has available do not count.
        due(z.recall(0, 0, 10), 0);
        due(slices(z, 0), "10-10 0-0");
    }

    @Says(at = "Section 3", words = "The remaining ones are recalled; if the slice has no due day, it is the present day plus the notice.")
    static void section3_presentDayPlusNotice() {
        LendingPool x = lone(2, 0);
        x.borrow(0, 0, 10, 0);
        due(x.slice(0, 0, 2), -1);
        x.recall(0, 0, 1);
        due(x.slice(0, 0, 2), 2);
        x.passDays(1);
        x.recall(0, 0, 1);
        // It has a due day, which stays.
        due(x.slice(0, 0, 1) + " due " + x.slice(0, 0, 2), "2 due 2");
        x.returnShares(0, 2);
        x.recall(0, 0, 1);
        due(x.slice(0, 0, 1) + " due " + x.slice(0, 0, 2), "1 due 3");
        due(x.passDays(2), 0);
        due(x.passDays(1), 1);
        LendingPool y = nineOfOthers();
        y.recall(0, 0, 9);
        // None remains, and so there is no due day.
        due(y.slice(0, 0, 2), -1);
    }

    // ---- section 4

    /** A day's fee of the shares is a tenth of their number with rate 3600, and its negative with rate 0 and rebate 3600. */
    private static LendingPool afterADay(int shares, int rate, int rebate) {
        LendingPool x = Check.pool("pool 0 0;security 100 " + rate + ";lender 50 100 0;borrower 9999999;holding 0 0 1000;");
        x.borrow(0, 0, shares, rebate);
        x.passDays(1);
        return x;
    }

    @Says(at = "Section 4", words = "the fee is shares * price * (rate of the security - rebate of the loan) / 3600000, truncated toward"
        + " zero; it may be negative")
    static void section4_feeTruncatedTowardZero() {
        int[] shares = {1, 9, 10, 19, 20};
        int[] fees = {0, 0, 1, 1, 2};
        for (int i = 0; i < shares.length; i++) {
            due(afterADay(shares[i], 3600, 0).total(0), fees[i]);
            due(afterADay(shares[i], 0, 3600).total(0), -fees[i]);
            due(afterADay(shares[i], 3600, 3600).total(0), 0);
            due(afterADay(shares[i], 0, 3600).account(1, 0), fees[i]);
        }
        LendingPool x = wide();
        x.borrow(0, 0, 99999, 0);
        x.setPrice(0, 9999);
        x.setRate(0, 9999);
        x.passDays(400);
        // 99999 * 9999 * 9999 is 9997900119999, and 2777194 times 3600000 is 9997898400000.
        due(x.total(0), 400L * 2777194);
        LendingPool y = wide();
        y.borrow(0, 0, 99999, 9999);
        y.setPrice(0, 9999);
        y.passDays(400);
        due(y.total(0), -400L * 2777194);
    }

    @Says(at = "Section 4", words = "the lender gets fee * split / 100, truncated toward zero; the agent gets the rest")
    static void section4_lendersPartTruncatedTowardZero() {
        int[] shares = {9, 10, 20, 30};
        String[] due = {"0 0 0 0 0", "0 -1 1 0 0", "1 -2 1 0 0", "1 -3 2 0 0"};
        String[] negative = {"0 0 0 0 0", "0 1 -1 0 0", "-1 2 -1 0 0", "-1 3 -2 0 0"};
        for (int i = 0; i < shares.length; i++) {
            due(Check.accounts(afterADay(shares[i], 3600, 0)), due[i]);
            due(Check.accounts(afterADay(shares[i], 0, 3600)), negative[i]);
        }
    }

    @Says(at = "Section 4", words = "for each slice whose due day is before the present day, the recalled shares are bought in: the"
        + " borrower pays shares * price * (100 + penalty) / 100, truncated, to the market, and the recalled shares are returned to"
        + " the lender")
    static void section4_buyInsTruncated() {
        int[] recalled = {1, 3, 4, 10};
        // 1.33, 3.99, 5.32 and 13.3.
        int[] paid = {1, 3, 5, 13};
        for (int i = 0; i < recalled.length; i++) {
            LendingPool x = Check.pool("pool 2 33;security 1 0;lender 0 100 0;borrower 99;holding 0 0 50;");
            x.borrow(0, 0, 10, 0);
            x.recall(0, 0, recalled[i]);
            due(x.passDays(2), 0);
            due(x.passDays(1), recalled[i]);
            due(Check.accounts(x), "0 " + -paid[i] + " 0 0 " + paid[i]);
            due(x.onLoan(0, 0) + " " + x.holding(0, 0), 10 - recalled[i] + " 50");
        }
        LendingPool y = Check.pool("pool 0 100;security 1 0;lender 0 100 0;borrower 9999999;holding 0 0 99999;");
        y.borrow(0, 0, 99999, 0);
        y.recall(0, 0, 99999);
        y.setPrice(0, 9999);
        due(y.passDays(1), 99999);
        due(y.account(4, 0), 2L * 99999 * 9999);
    }

    @Says(at = "Section 4", words = "the lender gets shares * amount * (100 - tax) / 100, truncated; the tax account gets the rest")
    static void section4_dividendTruncated() {
        int[] shares = {1, 2, 20, 21};
        // 0.85, 1.7, 17 and 17.85.
        int[] got = {0, 1, 17, 17};
        for (int i = 0; i < shares.length; i++) {
            LendingPool x = small();
            x.borrow(0, 0, shares[i], 0);
            due(x.payDividend(0, 1), shares[i]);
            due(Check.accounts(x), got[i] + " 0 0 " + -shares[i] + " 0 0 " + (shares[i] - got[i]) + " 0");
        }
    }

    private static long sum(LendingPool x) {
        long sum = 0;
        for (String balance : Check.accounts(x).split(" ")) {
            sum += Long.parseLong(balance);
        }
        return sum;
    }

    @Says(at = "Section 4", words = "all are 0 at first, and their sum is always 0")
    static void section4_sumIsAlways0() {
        due(Check.accounts(empty()), "0 0 0");
        due(Check.accounts(small()), "0 0 0 0 0 0 0 0");
        LendingPool x = busy();
        due(sum(x), 0);
        x.payDividend(0, 7);
        due(sum(x), 0);
        x.buyShares(1, 1, 3);
        due(sum(x), 0);
        x.sellShares(1, 1, 1);
        due(sum(x), 0);
        x.setRate(0, 0);
        x.passDays(3);
        due(x.total(1) + " " + sum(x), "10 0");
        x.undo();
        due(sum(x), 0);
    }

    // ---- section 6

    @Says(at = "Section 6", words = "A change is a successful call of borrow, returnShares, recall, passDays, payDividend, buyShares,"
        + " sellShares, setPrice, setRate, setLimit, setPolicy or runOrders, even if nothing becomes different.")
    static void section6_changeEvenIfNothingBecomesDifferent() {
        Use[] changes = {x -> x.borrow(0, 0, 1, 0), x -> x.returnShares(0, 1), x -> x.recall(0, 0, 1), x -> x.passDays(1),
            x -> x.payDividend(1, 1), x -> x.buyShares(0, 1, 1), x -> x.sellShares(0, 0, 1), x -> x.setPrice(0, 100),
            x -> x.setRate(0, 3600), x -> x.setLimit(0, 100), x -> x.setPolicy(0), x -> Check.orders(x, "")};
        for (Use change : changes) {
            LendingPool x = busy();
            x.truncateText(0);
            change.on(x);
            due(x.undoDepth(), 5);
            due(x.undo(), 4);
            due(Look.state(x), Look.state(busy()));
        }
        answers(1, Edge::empty, x -> x.passDays(1) + x.undoDepth());
        answers(1, Edge::empty, x -> x.setPolicy(0) + x.undoDepth());
        answers(1, Edge::empty, x -> x.runOrders() + x.undoDepth());
    }

    @Says(at = "Section 6", words = "undo() restores the state before the latest change that was not undone; the latest 10 changes can be"
        + " undone.")
    static void section6_theLatest10Changes() {
        for (int changes = 9; changes <= 12; changes++) {
            LendingPool x = small();
            for (int i = 1; i <= changes; i++) {
                x.setPrice(0, i);
            }
            due(x.undoDepth(), Math.min(changes, 10));
            for (int left = Math.min(changes, 10) - 1; left >= 0; left--) {
                due(x.undo(), left);
            }
            due(outcome(x, y -> y.undo()), IllegalStateException.class);
            due(x.security(0, 0), changes <= 10 ? 100 : changes - 10);
        }
    }

    @Says(at = "Section 6", words = "parsePool(), if it is successful, makes all earlier changes not undoable.")
    static void section6_aNewPoolIsNotUndoable() {
        LendingPool x = busy();
        due(x.parsePool() + " " + x.undoDepth(), "-1 4");
        due(x.undo(), 3);
        due(Check.parse(x, "pool 0 0;"), 1);
        due(x.undoDepth(), 0);
        due(outcome(x, y -> y.undo()), IllegalStateException.class);
        due(x.count(0), 0);
        x.passDays(1);
        due(x.undoDepth() + " " + x.undo() + " " + x.count(5), "1 0 0");
        due(outcome(x, y -> y.undo()), IllegalStateException.class);
    }

    @Says(at = "Section 6", words = "The text buffer, the report and the latest error are not part of the state.")
    static void section6_bufferReportAndErrorAreNoState() {
        LendingPool x = busy();
        x.parsePool();
        x.setPrice(0, 9);
        x.writeReport();
        String report = Look.report(x);
        Check.write(x, "pool 7 7");
        x.undo();
        x.undo();
        due(x.count(5), 0);
        due(Look.report(x), report);
        due(x.errorCode() + " at " + x.errorPosition(), "1 at 8");
        due(x.truncateText(8), 8);
        due(outcome(x, y -> y.truncateText(9)), IllegalArgumentException.class);
    }

    @Says(at = "Section 6", words = "All other methods change nothing but the text buffer (appendText, truncateText, parsePool, runOrders)"
        + " and the report (writeReport). Methods that look ahead work on a copy.")
    static void section6_allOtherMethodsChangeNothing() {
        Use[] calls = {x -> x.errorCode(), x -> x.errorPosition(), x -> x.count(3), x -> x.security(0, 0), x -> x.lender(0, 0),
            x -> x.credit(0), x -> x.holding(0, 0), x -> x.onLoan(0, 0), x -> x.available(0, 0), x -> x.pooled(0),
            x -> x.utilization(0), x -> x.exposure(0), x -> x.account(0, 0), x -> x.openLoan(0), x -> x.loan(0, 0),
            x -> x.slice(0, 0, 0), x -> x.dailyFee(0), x -> x.recallable(0, 0), x -> x.recallOrder(0, 0, 0),
            x -> x.returnOrder(0, 3), x -> x.quote(0, 50, 0), x -> x.borrowable(0, 0), x -> x.wouldReplace(1, 0, 50),
            x -> x.wouldReplace(0, 0, 40), x -> x.fewestLoans(0, 0, 40), x -> x.tightestSum(2, 0, 50),
            x -> x.tightestLoans(2, 0, 50), x -> x.accountAfter(400, 4, 0), x -> x.boughtInAfter(400), x -> x.firstBuyIn(),
            x -> x.breakingPrice(0, 0), x -> x.bestPolicy(0, 50), x -> x.rankedLender(0, 0), x -> x.richestLender(),
            x -> x.lastServed(0), x -> x.total(0), x -> x.reportByte(0), x -> x.undoDepth(), x -> x.writeReport(),
            x -> x.truncateText(8)};
        String before = Look.all(busy());
        for (Use call : calls) {
            LendingPool x = busy();
            due(outcome(x, call) instanceof Number, true);
            due(Look.all(x), before);
        }
        LendingPool y = busy();
        y.appendText(0, 0, 0, 0, 0);
        y.truncateText(8);
        due(Look.all(y), before);
        LendingPool z = busy();
        z.setPolicy(2);
        z.quote(0, 50, 0);
        z.wouldReplace(1, 0, 50);
        z.bestPolicy(0, 50);
        due(z.lastServed(0), NONE);
    }

    // ---- section 7

    @Says(at = "Section 7", words = "The exceptions of a call are checked in the order of its throws clause.")
    static void section7_exceptionsInOrder() {
        // All that could be refused is wrong at once, and then all but the first.
        index(Edge::full, x -> x.borrow(4, 0, 0, 0), x -> x.borrow(0, 4, 0, -1), x -> x.returnShares(12, 0),
            x -> x.recall(6, 0, 0), x -> x.recall(0, 4, 0), x -> x.payDividend(4, 0), x -> x.buyShares(6, 0, 0),
            x -> x.buyShares(0, 4, 0), x -> x.sellShares(6, 0, 0), x -> x.sellShares(0, 4, 0), x -> x.setPrice(4, 0),
            x -> x.setRate(4, -1), x -> x.setLimit(6, -1), x -> x.security(4, 2), x -> x.lender(6, 3), x -> x.loan(12, 8),
            x -> x.slice(12, 0, 3), x -> x.slice(0, 6, 3), x -> x.quote(4, 0, 0), x -> x.quote(0, 0, 6),
            x -> x.wouldReplace(6, 0, 0), x -> x.wouldReplace(0, 4, 0), x -> x.fewestLoans(6, 0, 0),
            x -> x.fewestLoans(0, 4, 0), x -> x.tightestSum(6, 0, 0), x -> x.tightestSum(0, 4, 0),
            x -> x.tightestLoans(6, 0, 0), x -> x.tightestLoans(0, 4, 0), x -> x.bestPolicy(4, 0), x -> x.utilization(4),
            x -> x.breakingPrice(0, 4), x -> x.breakingPrice(4, 0));
        argument(Edge::full, x -> x.borrow(0, 0, 0, 0), x -> x.borrow(0, 0, 51, 10000), x -> x.recall(0, 1, 100000),
            x -> x.buyShares(0, 0, 100000), x -> x.sellShares(0, 0, 100000), x -> x.quote(0, 100000, 0),
            x -> x.wouldReplace(0, 1, 100000), x -> x.fewestLoans(0, 1, 100000), x -> x.tightestSum(0, 1, 100000),
            x -> x.tightestLoans(0, 1, 100000), x -> x.bestPolicy(0, 100000));
    }

    @Says(at = "Section 7", words = "A call that throws an exception changes nothing.")
    static void section7_aRefusedCallChangesNothing() {
        state(Edge::busy, x -> x.borrow(0, 0, 51, 0), x -> x.borrow(1, 0, 51, 0), x -> x.recall(0, 0, 41),
            x -> x.buyShares(0, 0, 99900), x -> x.sellShares(0, 0, 51), x -> x.quote(0, 51, 0), x -> x.bestPolicy(0, 51),
            x -> x.wouldReplace(0, 0, 41));
        argument(Edge::busy, x -> x.returnShares(0, 121), x -> x.passDays(401), x -> x.payDividend(0, 10000),
            x -> x.setPrice(0, 10000), x -> x.setRate(0, 10000), x -> x.setLimit(0, 101), x -> x.setPolicy(3),
            x -> x.truncateText(9), x -> x.truncateText(-1));
        index(Edge::busy, x -> x.returnShares(2, 1), x -> x.reportByte(1000));
        // A refused change does not take the place of one of the ten that can be undone, either.
        LendingPool x = small();
        for (int i = 1; i <= 10; i++) {
            x.setPrice(0, i);
        }
        due(outcome(x, y -> y.setPrice(0, 0)), IllegalArgumentException.class);
        due(Check.orders(x, "price 0 77;x"), -12);
        for (int i = 9; i >= 1; i--) {
            due(x.undo() + " " + x.security(0, 0), i + " " + i);
        }
        due(x.undo() + " " + x.security(0, 0), "0 100");
    }

    @Says(at = "Section 7", words = "Before the first correct pool text there is a pool without securities, lenders and borrowers, with"
        + " notice 0 and penalty 0.")
    static void section7_beforeTheFirstPoolText() {
        LendingPool x = empty();
        for (int turn = 0; turn < 2; turn++) {
            for (int what = 0; what <= 8; what++) {
                due(x.count(what), 0);
            }
            due(Check.parse(x, "pool 31 100;"), NONE);
        }
        index(Edge::empty, y -> y.borrow(0, 0, 1, 0), y -> y.returnShares(0, 1), y -> y.recall(0, 0, 1),
            y -> y.payDividend(0, 1), y -> y.buyShares(0, 0, 1), y -> y.sellShares(0, 0, 1), y -> y.setPrice(0, 1),
            y -> y.setRate(0, 0), y -> y.setLimit(0, 0));
    }
}
