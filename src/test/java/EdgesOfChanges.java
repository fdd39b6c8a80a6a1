/** Promises 7 to 17, sentence by sentence. */
final class EdgesOfChanges extends Edge {
    private EdgesOfChanges() {
    }

    // ---- promise 7

    @Says(at = "Promise 7", words = "`quantity`: 1 to 99999")
    static void promise7_quantity() {
        LendingPool x = wide();
        due(x.borrow(0, 0, 1, 0) + " of " + x.loan(0, 2), "0 of 1");
        due(x.borrow(0, 0, 99999, 0) + " of " + x.loan(1, 2), "1 of 99999");
        // 199998 shares are available, and yet a quantity of 100000 is none.
        argument(Edge::wide, y -> y.borrow(0, 0, 0, 0), y -> y.borrow(0, 0, -1, 0), y -> y.borrow(0, 0, 100000, 0),
            y -> y.borrow(0, 0, LOW, 0), y -> y.borrow(0, 0, HIGH, 0));
    }

    @Says(at = "Promise 7", words = "`rebate`: 0 to 9999")
    static void promise7_rebate() {
        LendingPool x = busy();
        due(x.borrow(0, 0, 1, 0) + " " + x.borrow(0, 0, 1, 9999), "2 3");
        due(x.loan(2, 3) + " " + x.loan(3, 3), "0 9999");
        argument(Edge::busy, y -> y.borrow(0, 0, 1, -1), y -> y.borrow(0, 0, 1, 10000), y -> y.borrow(0, 0, 1, LOW),
            y -> y.borrow(0, 0, 1, HIGH));
    }

    @Says(at = "Promise 7", words = "Throws `IndexOutOfBoundsException` if there is no such lender, borrower or security")
    static void promise7_noSuchBorrowerOrSecurity() {
        answers(2, Edge::busy, x -> x.borrow(1, 0, 1, 0));
        index(Edge::busy, x -> x.borrow(2, 0, 1, 0), x -> x.borrow(-1, 0, 1, 0), x -> x.borrow(0, 2, 1, 0),
            x -> x.borrow(0, -1, 1, 0), x -> x.borrow(LOW, 0, 1, 0), x -> x.borrow(0, HIGH, 1, 0), x -> x.borrow(2, 2, 0, -1));
        index(Edge::empty, x -> x.borrow(0, 0, 1, 0));
        index(Edge::full, x -> x.borrow(4, 0, 1, 0), x -> x.borrow(0, 4, 1, 0));
        LendingPool y = full();
        y.returnShares(11, 70);
        due(y.borrow(3, 3, 70, 0), 12);
    }

    @Says(at = "Promise 7", words = "IllegalArgumentException if an argument is out of its range")
    static void promise7_argument() {
        argument(Edge::full, x -> x.borrow(0, 0, 0, 0), x -> x.borrow(0, 0, 100000, 0), x -> x.borrow(0, 0, 1, 10000),
            x -> x.borrow(0, 0, 1, -1), x -> x.borrow(3, 1, 0, 10000));
        argument(Edge::small, x -> x.borrow(0, 1, 0, 0), x -> x.borrow(1, 0, 51, 10000));
    }

    @Says(at = "Promise 7", words = "IllegalStateException if there are 12 open loans")
    static void promise7_12OpenLoans() {
        state(Edge::full, x -> x.borrow(0, 0, 1, 0), x -> x.borrow(3, 0, 50, 0));
        LendingPool x = full();
        x.returnShares(4, 49);
        due(outcome(x, y -> y.borrow(0, 0, 1, 0)), IllegalStateException.class);
        x.returnShares(4, 1);
        due(x.borrow(0, 0, 1, 0) + " " + x.count(3), "12 12");
        due(outcome(x, y -> y.borrow(0, 0, 1, 0)), IllegalStateException.class);
        x.undo();
        due(x.borrow(0, 0, 1, 0), 12);
    }

    @Says(at = "Promise 7", words = "if fewer shares are available")
    static void promise7_fewerShares() {
        answers(2, Edge::busy, x -> x.borrow(0, 0, 50, 0));
        state(Edge::busy, x -> x.borrow(0, 0, 51, 0), x -> x.borrow(0, 0, 99999, 0), x -> x.borrow(0, 1, 1, 0));
        LendingPool x = small();
        x.borrow(0, 0, 200, 0);
        due(outcome(x, y -> y.borrow(0, 0, 1, 0)), IllegalStateException.class);
        x.returnShares(0, 1);
        due(outcome(x, y -> y.borrow(0, 0, 2, 0)), IllegalStateException.class);
        due(x.borrow(0, 0, 1, 0), 1);
        x.returnShares(0, 9);
        x.setLimit(0, 91);
        // Lender 0 has 91 on loan: 100 - 10 + 1.
        due(x.onLoan(0, 0) + " " + x.pooled(0), "91 0");
        due(outcome(x, y -> y.borrow(0, 0, 1, 0)), IllegalStateException.class);
        x.setLimit(0, 92);
        due(x.borrow(0, 0, 1, 0), 2);
    }

    @Says(at = "Promise 7", words = "if the exposure of the borrower would be above the credit")
    static void promise7_exposureAboveCredit() {
        answers(0, Edge::small, x -> x.borrow(1, 0, 50, 0));
        state(Edge::small, x -> x.borrow(1, 0, 51, 0));
        LendingPool x = small();
        x.buyShares(0, 1, 200);
        x.borrow(1, 0, 49, 0);
        // 4900 of 5000: a hundred is left, for one share of security 0 or two of security 1.
        due(outcome(x, y -> y.borrow(1, 0, 2, 0)), IllegalStateException.class);
        due(outcome(x, y -> y.borrow(1, 1, 3, 0)), IllegalStateException.class);
        due(x.borrow(1, 1, 2, 0) + " " + x.exposure(1), "1 5000");
        due(outcome(x, y -> y.borrow(1, 1, 1, 0)), IllegalStateException.class);
        x.setPrice(1, 1);
        // 4902 at the present prices.
        due(outcome(x, y -> y.borrow(1, 1, 99, 0)), IllegalStateException.class);
        due(x.borrow(1, 1, 98, 0) + " " + x.exposure(1), "2 5000");
        x.setPrice(0, 9999);
        due(outcome(x, y -> y.borrow(1, 1, 1, 0)), IllegalStateException.class);
        LendingPool z = Check.pool("pool 0 0;security 9999 0;lender 0 100 0;borrower 9999999;holding 0 0 99999;");
        // 99999 * 9999 is 999890001; nothing wraps around.
        due(outcome(z, y -> y.borrow(0, 0, 99999, 0)), IllegalStateException.class);
        due(outcome(z, y -> y.borrow(0, 0, 1001, 0)), IllegalStateException.class);
        due(z.borrow(0, 0, 1000, 0), 0);
    }

    // ---- promise 8

    @Says(at = "Promise 8", words = "`quantity`: 1 to the quantity of the loan")
    static void promise8_quantity() {
        answers(119, Edge::busy, x -> x.returnShares(0, 1));
        answers(1, Edge::busy, x -> x.returnShares(0, 119));
        answers(0, Edge::busy, x -> x.returnShares(0, 120));
        answers(0, Edge::busy, x -> x.returnShares(1, 30));
        argument(Edge::busy, x -> x.returnShares(0, 0), x -> x.returnShares(0, -1), x -> x.returnShares(0, 121),
            x -> x.returnShares(1, 31), x -> x.returnShares(0, LOW), x -> x.returnShares(0, HIGH));
        LendingPool x = busy();
        x.returnShares(0, 100);
        due(outcome(x, y -> y.returnShares(0, 21)), IllegalArgumentException.class);
        due(x.returnShares(0, 20), 0);
        LendingPool z = wide();
        z.borrow(0, 0, 99999, 0);
        due(z.returnShares(0, 99999) + " " + z.count(3), "0 0");
    }

    @Says(at = "Promise 8", words = "Throws `IndexOutOfBoundsException` if there is no such open loan")
    static void promise8_noSuchOpenLoan() {
        index(Edge::empty, x -> x.returnShares(0, 1));
        index(Edge::small, x -> x.returnShares(0, 1));
        index(Edge::busy, x -> x.returnShares(2, 1), x -> x.returnShares(-1, 1), x -> x.returnShares(LOW, 1),
            x -> x.returnShares(HIGH, 1));
        index(Edge::full, x -> x.returnShares(12, 1));
        answers(69, Edge::full, x -> x.returnShares(11, 1));
        LendingPool x = busy();
        x.returnShares(0, 120);
        due(outcome(x, y -> y.returnShares(0, 1)), IndexOutOfBoundsException.class);
        due(x.returnShares(1, 1), 29);
        x.undo();
        x.undo();
        due(x.returnShares(0, 1), 119);
    }

    @Says(at = "Promise 8", words = "IllegalArgumentException if an argument is out of its range")
    static void promise8_argument() {
        index(Edge::busy, x -> x.returnShares(2, 0), x -> x.returnShares(-1, 100000));
        argument(Edge::full, x -> x.returnShares(0, 51), x -> x.returnShares(11, 71), x -> x.returnShares(11, 0));
    }

    // ---- promise 9

    /** All 99999 shares of lender 0 are on loan, and lender 1 has as many available. */
    private static LendingPool wideLoan() {
        LendingPool x = wide();
        x.borrow(0, 0, 99999, 0);
        return x;
    }

    @Says(at = "Promise 9", words = "`quantity`: 1 to 99999")
    static void promise9_quantity() {
        answers(1, EdgesOfChanges::wideLoan, x -> x.recall(0, 0, 1));
        answers(99999, EdgesOfChanges::wideLoan, x -> x.recall(0, 0, 99999));
        argument(EdgesOfChanges::wideLoan, x -> x.recall(0, 0, 0), x -> x.recall(0, 0, -1), x -> x.recall(0, 0, 100000),
            x -> x.recall(0, 0, LOW), x -> x.recall(0, 0, HIGH));
    }

    @Says(at = "Promise 9", words = "Throws `IndexOutOfBoundsException` if there is no such lender, borrower or security")
    static void promise9_noSuchLenderOrSecurity() {
        answers(50, Edge::busy, x -> x.recall(2, 0, 50));
        index(Edge::busy, x -> x.recall(3, 0, 1), x -> x.recall(-1, 0, 1), x -> x.recall(0, 2, 1), x -> x.recall(0, -1, 1),
            x -> x.recall(LOW, 0, 1), x -> x.recall(0, HIGH, 1));
        index(Edge::empty, x -> x.recall(0, 0, 1));
        index(Edge::full, x -> x.recall(6, 0, 1), x -> x.recall(0, 4, 1));
        answers(0, Edge::full, x -> x.recall(5, 3, 70));
    }

    @Says(at = "Promise 9", words = "IllegalArgumentException if an argument is out of its range")
    static void promise9_argument() {
        index(Edge::busy, x -> x.recall(3, 0, 0), x -> x.recall(0, 2, 100000));
        argument(Edge::busy, x -> x.recall(0, 0, 0), x -> x.recall(0, 1, 0), x -> x.recall(0, 1, 100000));
        argument(Edge::full, x -> x.recall(5, 3, 0), x -> x.recall(5, 3, 100000));
    }

    @Says(at = "Promise 9", words = "IllegalStateException if the lender has fewer shares on loan in this security that are not recalled"
        + " yet")
    static void promise9_fewerNotRecalled() {
        answers(0, Edge::busy, x -> x.recall(0, 0, 40));
        state(Edge::busy, x -> x.recall(0, 0, 41), x -> x.recall(0, 0, 50), x -> x.recall(1, 0, 51), x -> x.recall(2, 0, 51),
            x -> x.recall(0, 1, 1), x -> x.recall(0, 0, 99999));
        state(Edge::small, x -> x.recall(0, 0, 1));
        state(Edge::full, x -> x.recall(0, 0, 101), x -> x.recall(5, 0, 51), x -> x.recall(5, 3, 71), x -> x.recall(0, 3, 1));
        LendingPool x = busy();
        x.recall(0, 0, 40);
        due(outcome(x, y -> y.recall(0, 0, 1)), IllegalStateException.class);
        x.returnShares(0, 49);
        // One recalled share is left of lender 0.
        due(x.slice(0, 0, 0) + "-" + x.slice(0, 0, 1), "1-1");
        due(outcome(x, y -> y.recall(0, 0, 1)), IllegalStateException.class);
    }

    // ---- promises 10 and 11

    @Says(at = "Promise 10", words = "`days`: 1 to 400")
    static void promise10_days() {
        LendingPool x = busy();
        due(x.passDays(1) + " " + x.count(5), "0 2");
        due(x.passDays(400) + " " + x.count(5), "10 402");
        argument(Edge::busy, y -> y.passDays(0), y -> y.passDays(-1), y -> y.passDays(401), y -> y.passDays(LOW),
            y -> y.passDays(HIGH));
    }

    @Says(at = "Promise 10", words = "Throws `IllegalArgumentException` if an argument is out of its range")
    static void promise10_argument() {
        argument(Edge::empty, x -> x.passDays(0), x -> x.passDays(401));
        argument(Edge::full, x -> x.passDays(0), x -> x.passDays(401));
        answers(0, Edge::empty, x -> x.passDays(400));
        answers(0, Edge::full, x -> x.passDays(1));
        LendingPool x = busy();
        due(outcome(x, y -> y.passDays(401)), IllegalArgumentException.class);
        due(x.count(5) + " " + x.undoDepth(), "1 4");
    }

    @Says(at = "Promise 11", words = "`amount`: 1 to 9999, per share")
    static void promise11_amount() {
        answers(150, Edge::busy, x -> x.payDividend(0, 1));
        answers(150 * 9999, Edge::busy, x -> x.payDividend(0, 9999));
        argument(Edge::busy, x -> x.payDividend(0, 0), x -> x.payDividend(0, -1), x -> x.payDividend(0, 10000),
            x -> x.payDividend(0, LOW), x -> x.payDividend(0, HIGH));
    }

    @Says(at = "Promise 11", words = "Throws `IndexOutOfBoundsException` if there is no such lender, borrower or security")
    static void promise11_noSuchSecurity() {
        answers(0, Edge::busy, x -> x.payDividend(1, 1));
        index(Edge::busy, x -> x.payDividend(2, 1), x -> x.payDividend(-1, 1), x -> x.payDividend(LOW, 1),
            x -> x.payDividend(HIGH, 1));
        index(Edge::empty, x -> x.payDividend(0, 1));
        index(Edge::full, x -> x.payDividend(4, 1));
        answers(70, Edge::full, x -> x.payDividend(3, 1));
    }

    @Says(at = "Promise 11", words = "IllegalArgumentException if an argument is out of its range")
    static void promise11_argument() {
        index(Edge::busy, x -> x.payDividend(2, 0), x -> x.payDividend(-1, 10000));
        argument(Edge::full, x -> x.payDividend(3, 0), x -> x.payDividend(3, 10000));
        argument(Edge::small, x -> x.payDividend(1, 0));
    }

    // ---- promises 12 and 13

    @Says(at = "Promise 12", words = "`quantity`: 1 to 99999")
    static void promise12_quantity() {
        answers(1, Edge::small, x -> x.buyShares(2, 1, 1));
        answers(99999, Edge::small, x -> x.buyShares(2, 1, 99999));
        argument(Edge::small, x -> x.buyShares(2, 1, 0), x -> x.buyShares(2, 1, -1), x -> x.buyShares(2, 1, 100000),
            x -> x.buyShares(2, 1, LOW), x -> x.buyShares(2, 1, HIGH));
    }

    @Says(at = "Promise 12", words = "Throws `IndexOutOfBoundsException` if there is no such lender, borrower or security")
    static void promise12_noSuchLenderOrSecurity() {
        answers(1, Edge::busy, x -> x.buyShares(2, 1, 1));
        index(Edge::busy, x -> x.buyShares(3, 0, 1), x -> x.buyShares(-1, 0, 1), x -> x.buyShares(0, 2, 1),
            x -> x.buyShares(0, -1, 1), x -> x.buyShares(LOW, 0, 1), x -> x.buyShares(0, HIGH, 1));
        index(Edge::empty, x -> x.buyShares(0, 0, 1));
        index(Edge::full, x -> x.buyShares(6, 0, 1), x -> x.buyShares(0, 4, 1));
        answers(71, Edge::full, x -> x.buyShares(5, 3, 1));
    }

    @Says(at = "Promise 12", words = "IllegalArgumentException if an argument is out of its range")
    static void promise12_argument() {
        index(Edge::busy, x -> x.buyShares(3, 0, 0), x -> x.buyShares(0, 2, 100000));
        argument(Edge::busy, x -> x.buyShares(0, 0, 0), x -> x.buyShares(0, 0, 100000));
        argument(Edge::full, x -> x.buyShares(5, 3, 0), x -> x.buyShares(5, 3, 100000));
    }

    @Says(at = "Promise 12", words = "IllegalStateException if the holding would be above 99999")
    static void promise12_above99999() {
        answers(99999, Edge::busy, x -> x.buyShares(0, 0, 99899));
        state(Edge::busy, x -> x.buyShares(0, 0, 99900), x -> x.buyShares(0, 0, 99999));
        state(Edge::wide, x -> x.buyShares(0, 0, 1), x -> x.buyShares(1, 0, 99999));
        LendingPool x = wide();
        x.sellShares(0, 0, 1);
        due(outcome(x, y -> y.buyShares(0, 0, 2)), IllegalStateException.class);
        due(x.buyShares(0, 0, 1), 99999);
        due(Check.accounts(x), "0 0 0 0 0 0");
    }

    @Says(at = "Promise 13", words = "`quantity`: 1 to 99999")
    static void promise13_quantity() {
        answers(99998, Edge::wide, x -> x.sellShares(1, 0, 1));
        answers(0, Edge::wide, x -> x.sellShares(1, 0, 99999));
        argument(Edge::wide, x -> x.sellShares(1, 0, 0), x -> x.sellShares(1, 0, -1), x -> x.sellShares(1, 0, 100000),
            x -> x.sellShares(1, 0, LOW), x -> x.sellShares(1, 0, HIGH));
    }

    @Says(at = "Promise 13", words = "Throws `IndexOutOfBoundsException` if there is no such lender, borrower or security")
    static void promise13_noSuchLenderOrSecurity() {
        answers(99, Edge::small, x -> x.sellShares(1, 0, 1));
        index(Edge::busy, x -> x.sellShares(3, 0, 1), x -> x.sellShares(-1, 0, 1), x -> x.sellShares(0, 2, 1),
            x -> x.sellShares(0, -1, 1), x -> x.sellShares(LOW, 0, 1), x -> x.sellShares(0, HIGH, 1));
        index(Edge::empty, x -> x.sellShares(0, 0, 1));
        index(Edge::full, x -> x.sellShares(6, 0, 1), x -> x.sellShares(0, 4, 1));
        answers(99, Edge::full, x -> x.sellShares(5, 0, 1));
    }

    @Says(at = "Promise 13", words = "IllegalArgumentException if an argument is out of its range")
    static void promise13_argument() {
        index(Edge::busy, x -> x.sellShares(3, 0, 0), x -> x.sellShares(0, 2, 100000));
        argument(Edge::busy, x -> x.sellShares(0, 1, 0), x -> x.sellShares(0, 1, 100000));
        argument(Edge::full, x -> x.sellShares(5, 3, 0), x -> x.sellShares(5, 3, 100000));
    }

    @Says(at = "Promise 13", words = "IllegalStateException if the lender has fewer shares that are not on loan")
    static void promise13_fewerNotOnLoan() {
        answers(50, Edge::busy, x -> x.sellShares(0, 0, 50));
        answers(50, Edge::busy, x -> x.sellShares(1, 0, 50));
        state(Edge::busy, x -> x.sellShares(0, 0, 51), x -> x.sellShares(1, 0, 51), x -> x.sellShares(2, 0, 1),
            x -> x.sellShares(0, 1, 1), x -> x.sellShares(0, 0, 99999));
        state(Edge::full, x -> x.sellShares(0, 0, 1), x -> x.sellShares(5, 0, 51), x -> x.sellShares(5, 3, 1));
        LendingPool x = busy();
        x.sellShares(0, 0, 50);
        due(outcome(x, y -> y.sellShares(0, 0, 1)), IllegalStateException.class);
        x.returnShares(0, 1);
        due(x.sellShares(0, 0, 1), 49);
        due(outcome(x, y -> y.sellShares(0, 0, 1)), IllegalStateException.class);
    }

    // ---- promises 14 to 17

    @Says(at = "Promise 14", words = "`price`: 1 to 9999")
    static void promise14_price() {
        LendingPool x = busy();
        due(x.setPrice(0, 1) + " " + x.security(0, 0), "100 1");
        due(x.setPrice(0, 9999) + " " + x.security(0, 0), "1 9999");
        argument(Edge::busy, y -> y.setPrice(0, 0), y -> y.setPrice(0, -1), y -> y.setPrice(0, 10000), y -> y.setPrice(0, LOW),
            y -> y.setPrice(0, HIGH));
    }

    @Says(at = "Promise 14", words = "Throws `IndexOutOfBoundsException` if there is no such lender, borrower or security")
    static void promise14_noSuchSecurity() {
        answers(50, Edge::busy, x -> x.setPrice(1, 1));
        index(Edge::busy, x -> x.setPrice(2, 1), x -> x.setPrice(-1, 1), x -> x.setPrice(LOW, 1), x -> x.setPrice(HIGH, 1));
        index(Edge::empty, x -> x.setPrice(0, 1));
        index(Edge::full, x -> x.setPrice(4, 1));
        answers(14, Edge::full, x -> x.setPrice(3, 1));
    }

    @Says(at = "Promise 14", words = "IllegalArgumentException if an argument is out of its range")
    static void promise14_argument() {
        index(Edge::busy, x -> x.setPrice(2, 0), x -> x.setPrice(-1, 10000));
        argument(Edge::full, x -> x.setPrice(3, 0), x -> x.setPrice(3, 10000));
    }

    @Says(at = "Promise 15", words = "`rate`: 0 to 9999")
    static void promise15_rate() {
        LendingPool x = busy();
        due(x.setRate(0, 0) + " " + x.security(0, 1), "3600 0");
        due(x.setRate(0, 9999) + " " + x.security(0, 1), "0 9999");
        argument(Edge::busy, y -> y.setRate(0, -1), y -> y.setRate(0, 10000), y -> y.setRate(0, LOW), y -> y.setRate(0, HIGH));
    }

    @Says(at = "Promise 15", words = "Throws `IndexOutOfBoundsException` if there is no such lender, borrower or security")
    static void promise15_noSuchSecurity() {
        answers(0, Edge::busy, x -> x.setRate(1, 1));
        index(Edge::busy, x -> x.setRate(2, 1), x -> x.setRate(-1, 1), x -> x.setRate(LOW, 1), x -> x.setRate(HIGH, 1));
        index(Edge::empty, x -> x.setRate(0, 1));
        index(Edge::full, x -> x.setRate(4, 1));
        answers(400, Edge::full, x -> x.setRate(3, 1));
    }

    @Says(at = "Promise 15", words = "IllegalArgumentException if an argument is out of its range")
    static void promise15_argument() {
        index(Edge::busy, x -> x.setRate(2, -1), x -> x.setRate(-1, 10000));
        argument(Edge::full, x -> x.setRate(3, -1), x -> x.setRate(3, 10000));
    }

    @Says(at = "Promise 16", words = "`limit`: 0 to 100")
    static void promise16_limit() {
        LendingPool x = small();
        due(x.setLimit(1, 0) + " " + x.lender(1, 1) + " " + x.available(1, 0), "50 0 0");
        due(x.setLimit(1, 100) + " " + x.lender(1, 1) + " " + x.available(1, 0), "0 100 100");
        argument(Edge::busy, y -> y.setLimit(1, -1), y -> y.setLimit(1, 101), y -> y.setLimit(1, LOW), y -> y.setLimit(1, HIGH));
    }

    @Says(at = "Promise 16", words = "Throws `IndexOutOfBoundsException` if there is no such lender, borrower or security")
    static void promise16_noSuchLender() {
        answers(100, Edge::busy, x -> x.setLimit(2, 1));
        index(Edge::busy, x -> x.setLimit(3, 1), x -> x.setLimit(-1, 1), x -> x.setLimit(LOW, 1), x -> x.setLimit(HIGH, 1));
        index(Edge::empty, x -> x.setLimit(0, 1));
        index(Edge::full, x -> x.setLimit(6, 1));
        answers(100, Edge::full, x -> x.setLimit(5, 1));
    }

    @Says(at = "Promise 16", words = "IllegalArgumentException if an argument is out of its range")
    static void promise16_argument() {
        index(Edge::busy, x -> x.setLimit(3, -1), x -> x.setLimit(-1, 101));
        argument(Edge::full, x -> x.setLimit(5, -1), x -> x.setLimit(5, 101));
    }

    @Says(at = "Promise 17", words = "`policy`: 0 to 2")
    static void promise17_policy() {
        LendingPool x = busy();
        due(x.setPolicy(2) + " " + x.count(6), "0 2");
        due(x.setPolicy(1) + " " + x.count(6), "2 1");
        due(x.setPolicy(0) + " " + x.count(6), "1 0");
        argument(Edge::busy, y -> y.setPolicy(-1), y -> y.setPolicy(3), y -> y.setPolicy(LOW), y -> y.setPolicy(HIGH));
    }

    @Says(at = "Promise 17", words = "Throws `IllegalArgumentException` if an argument is out of its range")
    static void promise17_argument() {
        argument(Edge::empty, x -> x.setPolicy(-1), x -> x.setPolicy(3));
        argument(Edge::full, x -> x.setPolicy(-1), x -> x.setPolicy(3));
        answers(0, Edge::empty, x -> x.setPolicy(2));
    }
}
