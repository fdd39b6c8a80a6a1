/** Promises 19 to 29, sentence by sentence. */
final class EdgesOfThePool extends Edge {
    private EdgesOfThePool() {
    }

    @Says(at = "Promise 19", words = "Throws `IllegalArgumentException` if what is not 0 to 8")
    static void promise19_what0To8() {
        int[] inBusy = {2, 3, 2, 2, 2, 1, 0, 2, 10};
        int[] inFull = {4, 6, 4, 12, 12, 0, 0, 5, 20};
        LendingPool busy = busy();
        LendingPool full = full();
        for (int what = 0; what <= 8; what++) {
            due(busy.count(what) + " " + full.count(what), inBusy[what] + " " + inFull[what]);
        }
        for (Make make : new Make[] {Edge::empty, Edge::busy, Edge::full}) {
            argument(make, x -> x.count(-1), x -> x.count(9), x -> x.count(LOW), x -> x.count(HIGH));
        }
    }

    @Says(at = "Promise 20", words = "Throws `IndexOutOfBoundsException` if there is no such lender, borrower or security")
    static void promise20_noSuchSecurity() {
        answers(50, Edge::busy, x -> x.security(1, 0));
        index(Edge::busy, x -> x.security(2, 0), x -> x.security(-1, 0), x -> x.security(LOW, 0), x -> x.security(HIGH, 0));
        index(Edge::empty, x -> x.security(0, 0));
        index(Edge::full, x -> x.security(4, 0));
        answers(14, Edge::full, x -> x.security(3, 0));
        answers(400, Edge::full, x -> x.security(3, 1));
    }

    @Says(at = "Promise 20", words = "IllegalArgumentException if an argument is out of its range")
    static void promise20_argument() {
        answers(100, Edge::busy, x -> x.security(0, 0));
        answers(3600, Edge::busy, x -> x.security(0, 1));
        argument(Edge::busy, x -> x.security(0, 2), x -> x.security(0, -1), x -> x.security(1, LOW), x -> x.security(1, HIGH));
        argument(Edge::full, x -> x.security(3, 2), x -> x.security(3, -1));
        index(Edge::busy, x -> x.security(2, 2), x -> x.security(-1, -1));
    }

    @Says(at = "Promise 21", words = "Throws `IndexOutOfBoundsException` if there is no such lender, borrower or security")
    static void promise21_noSuchLender() {
        answers(33, Edge::busy, x -> x.lender(2, 0));
        index(Edge::busy, x -> x.lender(3, 0), x -> x.lender(-1, 0), x -> x.lender(LOW, 0), x -> x.lender(HIGH, 0));
        index(Edge::empty, x -> x.lender(0, 0));
        index(Edge::full, x -> x.lender(6, 0));
        answers(60, Edge::full, x -> x.lender(5, 0));
    }

    @Says(at = "Promise 21", words = "IllegalArgumentException if an argument is out of its range")
    static void promise21_argument() {
        answers(50, Edge::busy, x -> x.lender(0, 0));
        answers(100, Edge::busy, x -> x.lender(0, 1));
        answers(15, Edge::busy, x -> x.lender(0, 2));
        argument(Edge::busy, x -> x.lender(0, 3), x -> x.lender(0, -1), x -> x.lender(2, LOW), x -> x.lender(2, HIGH));
        argument(Edge::full, x -> x.lender(5, 3), x -> x.lender(5, -1));
        index(Edge::busy, x -> x.lender(3, 3), x -> x.lender(-1, -1));
    }

    @Says(at = "Promise 22", words = "Returns 0 to 9999999.")
    static void promise22_0To9999999() {
        LendingPool x = right("pool 0 0;borrower 0;borrower 9999999;", 3);
        due(x.credit(0) + " " + x.credit(1), "0 9999999");
        // What is borrowed does not lessen the credit.
        answers(1000000, Edge::busy, y -> y.credit(0));
    }

    @Says(at = "Promise 22", words = "Throws `IndexOutOfBoundsException` if there is no such lender, borrower or security")
    static void promise22_noSuchBorrower() {
        answers(5000, Edge::busy, x -> x.credit(1));
        index(Edge::busy, x -> x.credit(2), x -> x.credit(-1), x -> x.credit(LOW), x -> x.credit(HIGH));
        index(Edge::empty, x -> x.credit(0));
        index(Edge::full, x -> x.credit(4));
        answers(100004, Edge::full, x -> x.credit(3));
    }

    @Says(at = "Promise 23", words = "Returns 0 to 99999.")
    static void promise23_0To99999() {
        answers(99999, Edge::wide, x -> x.holding(1, 0));
        answers(0, Edge::busy, x -> x.holding(0, 1));
        LendingPool x = wide();
        x.sellShares(1, 0, 99999);
        due(x.holding(1, 0), 0);
        x.buyShares(1, 0, 99999);
        due(x.holding(1, 0), 99999);
        x.borrow(0, 0, 99999, 0);
        due(x.holding(0, 0), 99999);
    }

    @Says(at = "Promise 23", words = "Throws `IndexOutOfBoundsException` if there is no such lender, borrower or security")
    static void promise23_noSuchLenderOrSecurity() {
        answers(50, Edge::busy, x -> x.holding(2, 0));
        index(Edge::busy, x -> x.holding(3, 0), x -> x.holding(-1, 0), x -> x.holding(0, 2), x -> x.holding(0, -1),
            x -> x.holding(LOW, 0), x -> x.holding(0, HIGH));
        index(Edge::empty, x -> x.holding(0, 0));
        index(Edge::full, x -> x.holding(6, 0), x -> x.holding(0, 4));
        answers(70, Edge::full, x -> x.holding(5, 3));
    }

    @Says(at = "Promise 24", words = "Returns 0 or more.")
    static void promise24_0OrMore() {
        answers(0, Edge::small, x -> x.onLoan(0, 0));
        answers(0, Edge::busy, x -> x.onLoan(0, 1));
        answers(100, Edge::full, x -> x.onLoan(0, 0));
        LendingPool x = wide();
        x.borrow(0, 0, 99999, 0);
        due(x.onLoan(0, 0) + " " + x.onLoan(1, 0), "99999 0");
        x.returnShares(0, 99998);
        due(x.onLoan(0, 0), 1);
        x.returnShares(0, 1);
        due(x.onLoan(0, 0), 0);
    }

    @Says(at = "Promise 24", words = "Throws `IndexOutOfBoundsException` if there is no such lender, borrower or security")
    static void promise24_noSuchLenderOrSecurity() {
        answers(50, Edge::busy, x -> x.onLoan(2, 0));
        index(Edge::busy, x -> x.onLoan(3, 0), x -> x.onLoan(-1, 0), x -> x.onLoan(0, 2), x -> x.onLoan(0, -1),
            x -> x.onLoan(LOW, 0), x -> x.onLoan(0, HIGH));
        index(Edge::empty, x -> x.onLoan(0, 0));
        index(Edge::full, x -> x.onLoan(6, 0), x -> x.onLoan(0, 4));
        answers(70, Edge::full, x -> x.onLoan(5, 3));
    }

    @Says(at = "Promise 25", words = "Returns 0 or more.")
    static void promise25_0OrMore() {
        answers(0, Edge::busy, x -> x.available(0, 1));
        answers(0, Edge::busy, x -> x.available(1, 0));
        LendingPool x = busy();
        due(x.available(0, 0), 50);
        x.setLimit(0, 51);
        due(x.available(0, 0), 1);
        x.setLimit(0, 50);
        due(x.available(0, 0), 0);
        x.setLimit(0, 49);
        due(x.available(0, 0), 0);
        answers(99999, Edge::wide, y -> y.available(0, 0));
    }

    @Says(at = "Promise 25", words = "Throws `IndexOutOfBoundsException` if there is no such lender, borrower or security")
    static void promise25_noSuchLenderOrSecurity() {
        answers(50, Edge::small, x -> x.available(2, 0));
        index(Edge::busy, x -> x.available(3, 0), x -> x.available(-1, 0), x -> x.available(0, 2), x -> x.available(0, -1),
            x -> x.available(LOW, 0), x -> x.available(0, HIGH));
        index(Edge::empty, x -> x.available(0, 0));
        index(Edge::full, x -> x.available(6, 0), x -> x.available(0, 4));
        answers(50, Edge::full, x -> x.available(5, 0));
    }

    @Says(at = "Promise 26", words = "Returns 0 or more.")
    static void promise26_0OrMore() {
        answers(0, Edge::busy, x -> x.pooled(1));
        answers(200, Edge::small, x -> x.pooled(0));
        answers(6 * 99999, () -> held(99999, 99999, 99999, 99999, 99999, 99999), x -> x.pooled(0));
        answers(0, () -> right("pool 0 0;security 1 1;", 2), x -> x.pooled(0));
        LendingPool x = busy();
        x.borrow(0, 0, 49, 0);
        due(x.pooled(0), 1);
        x.borrow(0, 0, 1, 0);
        due(x.pooled(0), 0);
        x.setLimit(0, 0);
        due(x.pooled(0), 0);
    }

    @Says(at = "Promise 26", words = "Throws `IndexOutOfBoundsException` if there is no such lender, borrower or security")
    static void promise26_noSuchSecurity() {
        index(Edge::busy, x -> x.pooled(2), x -> x.pooled(-1), x -> x.pooled(LOW), x -> x.pooled(HIGH));
        index(Edge::empty, x -> x.pooled(0));
        index(Edge::full, x -> x.pooled(4));
        answers(0, Edge::full, x -> x.pooled(3));
        answers(50, Edge::full, x -> x.pooled(0));
    }

    @Says(at = "Promise 27", words = "Throws `IndexOutOfBoundsException` if there is no such lender, borrower or security")
    static void promise27_noSuchSecurity() {
        index(Edge::busy, x -> x.utilization(2), x -> x.utilization(-1), x -> x.utilization(LOW), x -> x.utilization(HIGH));
        index(Edge::empty, x -> x.utilization(0));
        index(Edge::full, x -> x.utilization(4));
        answers(1.0, Edge::full, x -> x.utilization(3));
        answers(550.0 / 600.0, Edge::full, x -> x.utilization(0));
    }

    @Says(at = "Promise 27", words = "ArithmeticException if all holdings are 0")
    static void promise27_allHoldings0() {
        arithmetic(Edge::busy, x -> x.utilization(1));
        arithmetic(Edge::full, x -> x.utilization(1), x -> x.utilization(2));
        arithmetic(() -> right("pool 0 0;security 1 1;", 2), x -> x.utilization(0));
        LendingPool x = busy();
        x.buyShares(2, 1, 1);
        due(x.utilization(1), 0.0);
        x.borrow(0, 1, 1, 0);
        due(x.utilization(1), 1.0);
        x.returnShares(2, 1);
        x.sellShares(2, 1, 1);
        due(outcome(x, y -> y.utilization(1)), ArithmeticException.class);
        answers(150.0 / 250.0, Edge::busy, y -> y.utilization(0));
        answers(0.0, Edge::small, y -> y.utilization(0));
        LendingPool z = held(99999, 99999, 99999, 99999, 99999, 99999);
        z.borrow(0, 0, 1, 0);
        due(z.utilization(0), 1.0 / 599994.0);
    }

    @Says(at = "Promise 28", words = "Returns 0 or more.")
    static void promise28_0OrMore() {
        answers(0, Edge::busy, x -> x.exposure(1));
        answers(15000, Edge::busy, x -> x.exposure(0));
        LendingPool x = held(99999, 99999, 99999, 99999, 99999, 99999);
        for (int i = 0; i < 6; i++) {
            x.borrow(0, 0, 99999, 0);
        }
        x.setPrice(0, 9999);
        due(x.exposure(0), 6L * 99999 * 9999);
        for (int i = 0; i < 6; i++) {
            x.returnShares(i, 99999);
        }
        due(x.exposure(0), 0);
    }

    @Says(at = "Promise 28", words = "Throws `IndexOutOfBoundsException` if there is no such lender, borrower or security")
    static void promise28_noSuchBorrower() {
        index(Edge::busy, x -> x.exposure(2), x -> x.exposure(-1), x -> x.exposure(LOW), x -> x.exposure(HIGH));
        index(Edge::empty, x -> x.exposure(0));
        index(Edge::full, x -> x.exposure(4));
        answers(1650, Edge::full, x -> x.exposure(0));
        answers(100 * 11 + 70 * 14, Edge::full, x -> x.exposure(3));
    }

    @Says(at = "Promise 29", words = "what was got counts positive, what was paid negative")
    static void promise29_gotAndPaid() {
        LendingPool x = busy();
        due(Check.accounts(x), "2 4 0 -11 0 5 0 0");
        x.buyShares(2, 1, 1);
        due(x.account(0, 2) + " " + x.account(4, 0), "-50 50");
        x.sellShares(2, 1, 1);
        due(x.account(0, 2) + " " + x.account(4, 0), "0 0");
        x.payDividend(0, 1);
        // 50 of lender 0 bring 42.5, 50 of lender 1 bring 50, 50 of lender 2 bring nothing but taxes.
        due(Check.accounts(x), "44 54 0 -161 0 5 58 0");
    }

    @Says(at = "Promise 29", words = "`number`: number of the lender or borrower; 0 for the other kinds")
    static void promise29_everyAccount() {
        LendingPool x = full();
        x.setPrice(0, 7200);
        x.setRate(0, 1000);
        x.passDays(1);
        // Loan i of 0 to 10 brings 100 - i, of which lender i % 6 gets 10, 20, .. or 60 percent; loan 11 brings 0.
        due(Check.accounts(x), "19 37 56 74 93 57 -288 -285 -282 -190 709 0 0");
        // 70 shares of lender 5, whose tax is 6 percent, on loan to borrower 3.
        x.payDividend(3, 100);
        due(Check.accounts(x), "19 37 56 74 93 6637 -288 -285 -282 -7190 709 420 0");
        x.buyShares(5, 3, 1);
        due(x.account(0, 5) + " " + x.account(4, 0) + " " + x.total(5), "6623 14 6902");
        x.setRate(0, 100);
        x.setPrice(0, 1);
        x.recall(5, 3, 70);
        // All fees are 0 now; 70 * 14 * 120 / 100 is 1176.
        due(x.passDays(5) + " " + x.passDays(1), "0 70");
        due(x.account(1, 3) + " " + x.account(4, 0), "-8366 1190");
    }

    @Says(at = "Promise 29", words = "Throws `IllegalArgumentException` if there is no such account")
    static void promise29_noSuchAccount() {
        answers(0, Edge::busy, x -> x.account(0, 2));
        answers(0, Edge::busy, x -> x.account(1, 1));
        argument(Edge::busy, x -> x.account(0, 3), x -> x.account(0, -1), x -> x.account(1, 2), x -> x.account(1, -1),
            x -> x.account(2, 1), x -> x.account(2, -1), x -> x.account(3, 1), x -> x.account(3, -1), x -> x.account(4, 1),
            x -> x.account(4, -1), x -> x.account(5, 0), x -> x.account(-1, 0), x -> x.account(LOW, 0), x -> x.account(HIGH, 0),
            x -> x.account(0, LOW), x -> x.account(1, HIGH));
        argument(Edge::empty, x -> x.account(0, 0), x -> x.account(1, 0), x -> x.account(5, 0), x -> x.account(2, 1));
        for (int kind = 2; kind <= 4; kind++) {
            int asked = kind;
            answers(0, Edge::empty, x -> x.account(asked, 0));
        }
        argument(Edge::full, x -> x.account(0, 6), x -> x.account(1, 4));
        answers(0, Edge::full, x -> x.account(0, 5));
        answers(0, Edge::full, x -> x.account(1, 3));
    }
}
