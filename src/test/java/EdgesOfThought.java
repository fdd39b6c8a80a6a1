/** Promises 37 to 47, sentence by sentence. */
final class EdgesOfThought extends Edge {
    private EdgesOfThought() {
    }

    /** All 99999 shares of lender 0 are on loan, and lender 1 has as many available. */
    private static LendingPool wideLoan() {
        LendingPool x = wide();
        x.borrow(0, 0, 99999, 0);
        return x;
    }

    /** One lender with open loans of these quantities. */
    private static LendingPool loansOf(int... quantities) {
        LendingPool x = held(99999);
        for (int quantity : quantities) {
            x.borrow(0, 0, quantity, 0);
        }
        return x;
    }

    // ---- promise 37

    @Says(at = "Promise 37", words = "Returns how many shares a lender would give if shares of a security were allocated now.")
    static void promise37_asAnAllocationNow() {
        String[] shares = {"7 0 0", "3 2 2", "7 0 0"};
        for (int policy = 0; policy <= 2; policy++) {
            LendingPool x = small();
            x.setPolicy(policy);
            String quotes = x.quote(0, 7, 0) + " " + x.quote(0, 7, 1) + " " + x.quote(0, 7, 2);
            x.borrow(0, 0, 7, 0);
            // 3.5, 1.75 and 1.75 with policy 1.
            due(quotes + ", " + Check.shares(x, 0), shares[policy] + ", " + shares[policy]);
        }
        LendingPool y = small();
        y.setPolicy(2);
        y.borrow(0, 0, 1, 0);
        due(y.quote(0, 51, 0) + " " + y.quote(0, 51, 1) + " " + y.quote(0, 51, 2), "0 50 1");
        due(y.quote(0, 199, 0) + " " + y.quote(0, 199, 1) + " " + y.quote(0, 199, 2), "99 50 50");
    }

    @Says(at = "Promise 37", words = "`quantity`: 1 to 99999")
    static void promise37_quantity() {
        answers(1, Edge::wide, x -> x.quote(0, 1, 0));
        answers(99999, Edge::wide, x -> x.quote(0, 99999, 0));
        argument(Edge::wide, x -> x.quote(0, 0, 0), x -> x.quote(0, -1, 0), x -> x.quote(0, 100000, 0), x -> x.quote(0, LOW, 0),
            x -> x.quote(0, HIGH, 0));
    }

    @Says(at = "Promise 37", words = "Throws `IndexOutOfBoundsException` if there is no such lender, borrower or security")
    static void promise37_noSuchLenderOrSecurity() {
        answers(0, Edge::busy, x -> x.quote(0, 50, 2));
        index(Edge::busy, x -> x.quote(2, 1, 0), x -> x.quote(-1, 1, 0), x -> x.quote(0, 1, 3), x -> x.quote(0, 1, -1),
            x -> x.quote(LOW, 1, 0), x -> x.quote(0, 1, HIGH));
        index(Edge::empty, x -> x.quote(0, 1, 0));
        index(Edge::full, x -> x.quote(4, 1, 0), x -> x.quote(0, 1, 6));
        answers(50, Edge::full, x -> x.quote(0, 50, 5));
    }

    @Says(at = "Promise 37", words = "IllegalArgumentException if an argument is out of its range")
    static void promise37_argument() {
        index(Edge::busy, x -> x.quote(2, 0, 0), x -> x.quote(0, 100000, 3));
        argument(Edge::busy, x -> x.quote(1, 0, 0), x -> x.quote(1, 100000, 0));
        argument(Edge::full, x -> x.quote(0, 0, 5), x -> x.quote(0, 100000, 5));
    }

    @Says(at = "Promise 37", words = "IllegalStateException if fewer shares are available")
    static void promise37_fewerShares() {
        answers(50, Edge::busy, x -> x.quote(0, 50, 0));
        state(Edge::busy, x -> x.quote(0, 51, 0), x -> x.quote(0, 99999, 0), x -> x.quote(1, 1, 0));
        answers(100, Edge::small, x -> x.quote(0, 200, 0));
        state(Edge::small, x -> x.quote(0, 201, 0));
        state(Edge::full, x -> x.quote(0, 51, 5), x -> x.quote(3, 1, 5));
        LendingPool x = busy();
        x.borrow(0, 0, 50, 0);
        due(outcome(x, y -> y.quote(0, 1, 0)), IllegalStateException.class);
        x.returnShares(2, 1);
        due(x.quote(0, 1, 0), 1);
    }

    // ---- promise 38

    /** What borrowable() answers is borrowed, and one share more is not. */
    private static void borrowable(int want, LendingPool x, int borrower, int security) {
        due(x.borrowable(borrower, security), want);
        due(outcome(x, y -> y.borrow(borrower, security, want + 1, 0)),
            want == 99999 ? IllegalArgumentException.class : IllegalStateException.class);
        if (want > 0) {
            due(x.borrow(borrower, security, want, 0), x.count(4) - 1);
        }
    }

    @Says(at = "Promise 38", words = "Returns the greatest quantity with which borrow() would succeed now.")
    static void promise38_theGreatestQuantity() {
        borrowable(200, small(), 0, 0);
        borrowable(50, small(), 1, 0);
        borrowable(50, busy(), 0, 0);
        borrowable(99999, wide(), 0, 0);
        LendingPool x = small();
        x.setPrice(0, 99);
        // 50 * 99 is 4950, and 51 * 99 is 5049.
        borrowable(50, x, 1, 0);
        LendingPool y = small();
        y.setPrice(0, 5000);
        borrowable(1, y, 1, 0);
        LendingPool z = full();
        z.returnShares(0, 50);
        // Lenders 0 and 5 have 50 each.
        borrowable(100, z, 0, 0);
        // One of the credit is left, and then none.
        LendingPool w = Check.pool("pool 0 0;security 1 0;lender 0 100 0;borrower 3;holding 0 0 9;");
        w.borrow(0, 0, 2, 0);
        borrowable(1, w, 0, 0);
        borrowable(0, w, 0, 0);
    }

    @Says(at = "Promise 38", words = "Returns 0 if there is none.")
    static void promise38_0IfThereIsNone() {
        borrowable(0, busy(), 0, 1);
        borrowable(0, full(), 0, 0);
        LendingPool x = small();
        x.setPrice(0, 5001);
        borrowable(0, x, 1, 0);
        LendingPool y = small();
        y.borrow(1, 0, 50, 0);
        // The exposure is as great as the credit, and then above it.
        borrowable(0, y, 1, 0);
        y.setPrice(0, 101);
        borrowable(0, y, 1, 0);
        y.setPrice(0, 9999);
        borrowable(0, y, 1, 0);
        y.setPrice(0, 101);
        borrowable(150, y, 0, 0);
        borrowable(0, y, 0, 0);
        borrowable(0, Check.pool("pool 0 0;security 1 0;lender 0 100 0;borrower 0;holding 0 0 9;"), 0, 0);
        borrowable(0, Check.pool("pool 0 0;security 1 0;borrower 9;"), 0, 0);
    }

    @Says(at = "Promise 38", words = "Throws `IndexOutOfBoundsException` if there is no such lender, borrower or security")
    static void promise38_noSuchBorrowerOrSecurity() {
        answers(0, Edge::busy, x -> x.borrowable(1, 1));
        index(Edge::busy, x -> x.borrowable(2, 0), x -> x.borrowable(-1, 0), x -> x.borrowable(0, 2), x -> x.borrowable(0, -1),
            x -> x.borrowable(LOW, 0), x -> x.borrowable(0, HIGH));
        index(Edge::empty, x -> x.borrowable(0, 0));
        index(Edge::full, x -> x.borrowable(4, 0), x -> x.borrowable(0, 4));
        answers(0, Edge::full, x -> x.borrowable(3, 3));
    }

    // ---- promise 39

    @Says(at = "Promise 39", words = "`quantity`: 1 to 99999")
    static void promise39_quantity() {
        answers(1, EdgesOfThought::wideLoan, x -> x.wouldReplace(0, 0, 1));
        answers(99999, EdgesOfThought::wideLoan, x -> x.wouldReplace(0, 0, 99999));
        argument(EdgesOfThought::wideLoan, x -> x.wouldReplace(0, 0, 0), x -> x.wouldReplace(0, 0, -1),
            x -> x.wouldReplace(0, 0, 100000), x -> x.wouldReplace(0, 0, LOW), x -> x.wouldReplace(0, 0, HIGH));
    }

    @Says(at = "Promise 39", words = "Throws `IndexOutOfBoundsException` if there is no such lender, borrower or security")
    static void promise39_noSuchLenderOrSecurity() {
        answers(50, Edge::busy, x -> x.wouldReplace(2, 0, 50));
        index(Edge::busy, x -> x.wouldReplace(3, 0, 1), x -> x.wouldReplace(-1, 0, 1), x -> x.wouldReplace(0, 2, 1),
            x -> x.wouldReplace(0, -1, 1), x -> x.wouldReplace(LOW, 0, 1), x -> x.wouldReplace(0, HIGH, 1));
        index(Edge::empty, x -> x.wouldReplace(0, 0, 1));
        index(Edge::full, x -> x.wouldReplace(6, 0, 1), x -> x.wouldReplace(0, 4, 1));
        answers(0, Edge::full, x -> x.wouldReplace(5, 3, 70));
    }

    @Says(at = "Promise 39", words = "IllegalArgumentException if an argument is out of its range")
    static void promise39_argument() {
        index(Edge::busy, x -> x.wouldReplace(3, 0, 0), x -> x.wouldReplace(0, 2, 100000));
        argument(Edge::busy, x -> x.wouldReplace(0, 1, 0), x -> x.wouldReplace(0, 1, 100000));
        argument(Edge::full, x -> x.wouldReplace(5, 3, 0), x -> x.wouldReplace(5, 3, 100000));
    }

    @Says(at = "Promise 39", words = "IllegalStateException if recall() would throw it")
    static void promise39_ifRecallWouldThrowIt() {
        answers(0, Edge::busy, x -> x.wouldReplace(0, 0, 40));
        state(Edge::busy, x -> x.wouldReplace(0, 0, 41), x -> x.wouldReplace(1, 0, 51), x -> x.wouldReplace(0, 1, 1),
            x -> x.wouldReplace(0, 0, 99999));
        state(Edge::small, x -> x.wouldReplace(0, 0, 1));
        state(Edge::full, x -> x.wouldReplace(0, 0, 101), x -> x.wouldReplace(5, 3, 71));
        // Fifty of lender 0 can replace 50 of lender 1, and what lender 0 could replace in both of its loans.
        LendingPool x = busy();
        due(x.wouldReplace(1, 0, 50) + " " + x.recall(1, 0, 50), "50 50");
    }

    // ---- promises 40 to 42

    @Says(at = "Promise 40", words = "Finds the fewest open loans whose slices of a lender in a security have together at least a number of"
        + " shares that are not recalled yet.")
    static void promise40_atLeast() {
        LendingPool x = busy();
        int[] wanted = {1, 29, 30, 31, 50};
        int[] fewest = {1, 1, 1, 2, 2};
        for (int i = 0; i < wanted.length; i++) {
            due(x.fewestLoans(2, 0, wanted[i]), fewest[i]);
        }
        LendingPool y = loansOf(1, 1, 1, 1, 1, 1, 1, 1, 1, 1, 1, 1);
        due(y.fewestLoans(0, 0, 1) + " " + y.fewestLoans(0, 0, 11) + " " + y.fewestLoans(0, 0, 12), "1 11 12");
        LendingPool z = loansOf(5, 9, 7);
        due(z.fewestLoans(0, 0, 9) + " " + z.fewestLoans(0, 0, 10) + " " + z.fewestLoans(0, 0, 16), "1 2 2");
        due(z.fewestLoans(0, 0, 17), 3);
        z.recall(0, 0, 5);
        // All of loan 0 is recalled; 9 and 7 are left.
        due(z.fewestLoans(0, 0, 16), 2);
    }

    @Says(at = "Promise 40", words = "`quantity`: 1 to 99999")
    static void promise40_quantity() {
        answers(1, EdgesOfThought::wideLoan, x -> x.fewestLoans(0, 0, 1));
        answers(1, EdgesOfThought::wideLoan, x -> x.fewestLoans(0, 0, 99999));
        argument(EdgesOfThought::wideLoan, x -> x.fewestLoans(0, 0, 0), x -> x.fewestLoans(0, 0, -1),
            x -> x.fewestLoans(0, 0, 100000), x -> x.fewestLoans(0, 0, LOW), x -> x.fewestLoans(0, 0, HIGH));
    }

    @Says(at = "Promise 40", words = "Throws `IndexOutOfBoundsException` if there is no such lender, borrower or security")
    static void promise40_noSuchLenderOrSecurity() {
        answers(2, Edge::busy, x -> x.fewestLoans(2, 0, 50));
        index(Edge::busy, x -> x.fewestLoans(3, 0, 1), x -> x.fewestLoans(-1, 0, 1), x -> x.fewestLoans(0, 2, 1),
            x -> x.fewestLoans(0, -1, 1), x -> x.fewestLoans(LOW, 0, 1), x -> x.fewestLoans(0, HIGH, 1));
        index(Edge::empty, x -> x.fewestLoans(0, 0, 1));
        index(Edge::full, x -> x.fewestLoans(6, 0, 1), x -> x.fewestLoans(0, 4, 1));
        answers(1, Edge::full, x -> x.fewestLoans(5, 3, 70));
    }

    @Says(at = "Promise 40", words = "IllegalArgumentException if an argument is out of its range")
    static void promise40_argument() {
        index(Edge::busy, x -> x.fewestLoans(3, 0, 0), x -> x.fewestLoans(0, 2, 100000));
        argument(Edge::busy, x -> x.fewestLoans(0, 1, 0), x -> x.fewestLoans(0, 1, 100000));
        argument(Edge::full, x -> x.fewestLoans(5, 3, 0), x -> x.fewestLoans(5, 3, 100000));
    }

    @Says(at = "Promise 40", words = "NoSuchElementException if all of them have fewer")
    static void promise40_allHaveFewer() {
        answers(1, Edge::busy, x -> x.fewestLoans(0, 0, 40));
        element(Edge::busy, x -> x.fewestLoans(0, 0, 41), x -> x.fewestLoans(2, 0, 51), x -> x.fewestLoans(0, 1, 1),
            x -> x.fewestLoans(0, 0, 99999));
        element(Edge::small, x -> x.fewestLoans(0, 0, 1));
        element(Edge::full, x -> x.fewestLoans(0, 0, 101), x -> x.fewestLoans(5, 3, 71));
    }

    @Says(at = "Promise 41", words = "Finds some open loans whose slices of a lender in a security have together at least a number of shares"
        + " that are not recalled yet, but as few as possible.")
    static void promise41_atLeastButAsFewAsPossible() {
        LendingPool x = busy();
        int[] wanted = {1, 20, 21, 30, 31, 50};
        int[] sums = {20, 20, 30, 30, 50, 50};
        for (int i = 0; i < wanted.length; i++) {
            due(x.tightestSum(2, 0, wanted[i]), sums[i]);
        }
        // The 10 recalled shares do not count.
        due(x.tightestSum(0, 0, 1), 40);
        LendingPool y = loansOf(1, 2, 4, 8, 16, 32, 64, 128, 256, 512, 1024, 2048);
        for (int quantity : new int[] {1, 2047, 2048, 4094, 4095}) {
            due(y.tightestSum(0, 0, quantity), quantity);
        }
        due(loansOf(30, 30, 50).tightestSum(0, 0, 55), 60);
        due(loansOf(30, 31, 50).tightestSum(0, 0, 62), 80);
    }

    @Says(at = "Promise 41", words = "`quantity`: 1 to 99999")
    static void promise41_quantity() {
        answers(99999, EdgesOfThought::wideLoan, x -> x.tightestSum(0, 0, 1));
        answers(99999, EdgesOfThought::wideLoan, x -> x.tightestSum(0, 0, 99999));
        argument(EdgesOfThought::wideLoan, x -> x.tightestSum(0, 0, 0), x -> x.tightestSum(0, 0, -1),
            x -> x.tightestSum(0, 0, 100000), x -> x.tightestSum(0, 0, LOW), x -> x.tightestSum(0, 0, HIGH));
    }

    @Says(at = "Promise 41", words = "Throws `IndexOutOfBoundsException` if there is no such lender, borrower or security")
    static void promise41_noSuchLenderOrSecurity() {
        answers(20, Edge::busy, x -> x.tightestSum(2, 0, 1));
        index(Edge::busy, x -> x.tightestSum(3, 0, 1), x -> x.tightestSum(-1, 0, 1), x -> x.tightestSum(0, 2, 1),
            x -> x.tightestSum(0, -1, 1), x -> x.tightestSum(LOW, 0, 1), x -> x.tightestSum(0, HIGH, 1));
        index(Edge::empty, x -> x.tightestSum(0, 0, 1));
        index(Edge::full, x -> x.tightestSum(6, 0, 1), x -> x.tightestSum(0, 4, 1));
        answers(70, Edge::full, x -> x.tightestSum(5, 3, 1));
    }

    @Says(at = "Promise 41", words = "IllegalArgumentException if an argument is out of its range")
    static void promise41_argument() {
        index(Edge::busy, x -> x.tightestSum(3, 0, 0), x -> x.tightestSum(0, 2, 100000));
        argument(Edge::busy, x -> x.tightestSum(0, 1, 0), x -> x.tightestSum(0, 1, 100000));
        argument(Edge::full, x -> x.tightestSum(5, 3, 0), x -> x.tightestSum(5, 3, 100000));
    }

    @Says(at = "Promise 41", words = "NoSuchElementException if all of them have fewer")
    static void promise41_allHaveFewer() {
        answers(40, Edge::busy, x -> x.tightestSum(0, 0, 40));
        element(Edge::busy, x -> x.tightestSum(0, 0, 41), x -> x.tightestSum(2, 0, 51), x -> x.tightestSum(0, 1, 1),
            x -> x.tightestSum(0, 0, 99999));
        element(Edge::small, x -> x.tightestSum(0, 0, 1));
        element(Edge::full, x -> x.tightestSum(0, 0, 101), x -> x.tightestSum(5, 3, 71));
    }

    @Says(at = "Promise 42", words = "of several sets the one with the fewest loans, of these the least as a number")
    static void promise42_fewestThenLeast() {
        // 30 is one loan rather than two; of the two loans of 30 the first.
        due(loansOf(10, 20, 30, 30).tightestLoans(0, 0, 30), 4);
        // 50 is 20 and 30 (bits 1 and 2), or 10 and 40 (bits 0 and 3); the first is the least as a number.
        due(loansOf(10, 20, 30, 40).tightestLoans(0, 0, 50), 6);
        due(loansOf(7, 7, 7, 7, 7, 7, 7, 7, 7, 7, 7, 7).tightestLoans(0, 0, 1), 1);
        due(loansOf(7, 7, 7, 7, 7, 7, 7, 7, 7, 7, 7, 7).tightestLoans(0, 0, 84), 4095);
        due(loansOf(9, 9, 9, 9, 9, 9, 9, 9, 9, 9, 9, 5).tightestLoans(0, 0, 5), 2048);
    }

    @Says(at = "Promise 42", words = "Returns a set of open loans; bit k stands for the loan that openLoan(k) returns.")
    static void promise42_bits() {
        LendingPool x = loansOf(1, 2, 4, 8);
        x.returnShares(1, 2);
        // Loans 0, 2 and 3 stand at the places 0, 1 and 2.
        due(x.tightestLoans(0, 0, 4) + " " + x.tightestLoans(0, 0, 8) + " " + x.tightestLoans(0, 0, 13), "2 4 7");
        answers(1 << 11, Edge::full, y -> y.tightestLoans(5, 3, 70));
        answers(1 | 1 << 6, Edge::full, y -> y.tightestLoans(0, 0, 100));
    }

    @Says(at = "Promise 42", words = "`quantity`: 1 to 99999")
    static void promise42_quantity() {
        answers(1, EdgesOfThought::wideLoan, x -> x.tightestLoans(0, 0, 1));
        answers(1, EdgesOfThought::wideLoan, x -> x.tightestLoans(0, 0, 99999));
        argument(EdgesOfThought::wideLoan, x -> x.tightestLoans(0, 0, 0), x -> x.tightestLoans(0, 0, -1),
            x -> x.tightestLoans(0, 0, 100000), x -> x.tightestLoans(0, 0, LOW), x -> x.tightestLoans(0, 0, HIGH));
    }

    @Says(at = "Promise 42", words = "Throws `IndexOutOfBoundsException` if there is no such lender, borrower or security")
    static void promise42_noSuchLenderOrSecurity() {
        answers(3, Edge::busy, x -> x.tightestLoans(2, 0, 50));
        index(Edge::busy, x -> x.tightestLoans(3, 0, 1), x -> x.tightestLoans(-1, 0, 1), x -> x.tightestLoans(0, 2, 1),
            x -> x.tightestLoans(0, -1, 1), x -> x.tightestLoans(LOW, 0, 1), x -> x.tightestLoans(0, HIGH, 1));
        index(Edge::empty, x -> x.tightestLoans(0, 0, 1));
        index(Edge::full, x -> x.tightestLoans(6, 0, 1), x -> x.tightestLoans(0, 4, 1));
    }

    @Says(at = "Promise 42", words = "IllegalArgumentException if an argument is out of its range")
    static void promise42_argument() {
        index(Edge::busy, x -> x.tightestLoans(3, 0, 0), x -> x.tightestLoans(0, 2, 100000));
        argument(Edge::busy, x -> x.tightestLoans(0, 1, 0), x -> x.tightestLoans(0, 1, 100000));
        argument(Edge::full, x -> x.tightestLoans(5, 3, 0), x -> x.tightestLoans(5, 3, 100000));
    }

    @Says(at = "Promise 42", words = "NoSuchElementException if all of them have fewer")
    static void promise42_allHaveFewer() {
        answers(1, Edge::busy, x -> x.tightestLoans(0, 0, 40));
        element(Edge::busy, x -> x.tightestLoans(0, 0, 41), x -> x.tightestLoans(2, 0, 51), x -> x.tightestLoans(0, 1, 1),
            x -> x.tightestLoans(0, 0, 99999));
        element(Edge::small, x -> x.tightestLoans(0, 0, 1));
        element(Edge::full, x -> x.tightestLoans(0, 0, 101), x -> x.tightestLoans(5, 3, 71));
    }

    // ---- promises 43 to 45

    @Says(at = "Promise 43", words = "`days`: 0 to 400")
    static void promise43_days() {
        LendingPool x = busy();
        // 11 a day; on the second day 10 shares are bought in for 1100; then 10 a day.
        due(x.accountAfter(0, 1, 0), -11);
        due(x.accountAfter(1, 1, 0), -22);
        due(x.accountAfter(2, 1, 0), -33 - 1100);
        due(x.accountAfter(3, 1, 0), -33 - 1100 - 10);
        due(x.accountAfter(400, 1, 0), -33 - 1100 - 3980);
        argument(Edge::busy, y -> y.accountAfter(-1, 1, 0), y -> y.accountAfter(401, 1, 0), y -> y.accountAfter(LOW, 1, 0),
            y -> y.accountAfter(HIGH, 1, 0));
    }

    @Says(at = "Promise 43", words = "Throws `IllegalArgumentException` if days is out of its range or if there is no such account")
    static void promise43_noSuchAccount() {
        argument(Edge::busy, x -> x.accountAfter(0, 0, 3), x -> x.accountAfter(0, 0, -1), x -> x.accountAfter(1, 1, 2),
            x -> x.accountAfter(1, 1, -1), x -> x.accountAfter(1, 2, 1), x -> x.accountAfter(1, 3, 1), x -> x.accountAfter(1, 4, 1),
            x -> x.accountAfter(1, 4, -1), x -> x.accountAfter(1, 5, 0), x -> x.accountAfter(1, -1, 0),
            x -> x.accountAfter(401, 5, 0), x -> x.accountAfter(1, LOW, 0), x -> x.accountAfter(1, 0, HIGH));
        argument(Edge::empty, x -> x.accountAfter(0, 0, 0), x -> x.accountAfter(0, 1, 0), x -> x.accountAfter(401, 2, 0));
        answers(0, Edge::empty, x -> x.accountAfter(400, 4, 0));
        argument(Edge::full, x -> x.accountAfter(0, 0, 6), x -> x.accountAfter(0, 1, 4), x -> x.accountAfter(401, 0, 5));
        answers(0, Edge::full, x -> x.accountAfter(0, 0, 5));
        answers(0, Edge::full, x -> x.accountAfter(400, 1, 3));
        answers(1100, Edge::busy, x -> x.accountAfter(400, 4, 0));
    }

    @Says(at = "Promise 44", words = "`days`: 1 to 400")
    static void promise44_days() {
        answers(0, Edge::busy, x -> x.boughtInAfter(1));
        answers(10, Edge::busy, x -> x.boughtInAfter(2));
        answers(10, Edge::busy, x -> x.boughtInAfter(400));
        argument(Edge::busy, x -> x.boughtInAfter(0), x -> x.boughtInAfter(-1), x -> x.boughtInAfter(401),
            x -> x.boughtInAfter(LOW), x -> x.boughtInAfter(HIGH));
    }

    @Says(at = "Promise 44", words = "Throws `IllegalArgumentException` if an argument is out of its range")
    static void promise44_argument() {
        argument(Edge::empty, x -> x.boughtInAfter(0), x -> x.boughtInAfter(401));
        argument(Edge::full, x -> x.boughtInAfter(0), x -> x.boughtInAfter(401));
        answers(0, Edge::empty, x -> x.boughtInAfter(400));
        answers(0, Edge::full, x -> x.boughtInAfter(400));
        LendingPool x = full();
        x.recall(5, 3, 70);
        due(x.boughtInAfter(5) + " " + x.boughtInAfter(6), "0 70");
    }

    /** One share is recalled at once. */
    private static LendingPool recalledUnder(int notice) {
        LendingPool x = lone(notice, 0);
        x.borrow(0, 0, 2, 0);
        x.recall(0, 0, 1);
        return x;
    }

    @Says(at = "Promise 45", words = "Returns after how many days shares would be bought in first.")
    static void promise45_first() {
        // Loan 1, with the greater rebate, is recalled on day 0 and loan 0 on day 1; then it is the other way round.
        int[][] rebates = {{0, 9}, {9, 0}};
        for (int[] rebate : rebates) {
            LendingPool x = lone(2, 0);
            x.borrow(0, 0, 10, rebate[0]);
            x.borrow(0, 0, 10, rebate[1]);
            x.recall(0, 0, 10);
            due(x.firstBuyIn(), 3);
            x.passDays(1);
            x.recall(0, 0, 10);
            due(x.firstBuyIn(), 2);
            due(x.passDays(2) + " " + x.firstBuyIn(), "10 1");
            due(x.passDays(1), 10);
        }
        LendingPool y = held(5, 5);
        y.borrow(0, 0, 10, 0);
        y.recall(1, 0, 5);
        y.passDays(1);
        y.recall(0, 0, 5);
        // Of one loan, lender 1 is due on day 2 and lender 0 on day 3.
        due(y.firstBuyIn(), 2);
    }

    @Says(at = "Promise 45", words = "Returns 1 or more.")
    static void promise45_1OrMore() {
        answers(1, () -> recalledUnder(0), x -> x.firstBuyIn());
        answers(31, () -> recalledUnder(30), x -> x.firstBuyIn());
        LendingPool x = busy();
        due(x.firstBuyIn(), 2);
        x.passDays(1);
        due(x.firstBuyIn(), 1);
        due(x.boughtInAfter(1), 10);
    }

    @Says(at = "Promise 45", words = "Throws `NoSuchElementException` if no shares are recalled")
    static void promise45_noSharesAreRecalled() {
        element(Edge::empty, x -> x.firstBuyIn());
        element(Edge::small, x -> x.firstBuyIn());
        element(Edge::full, x -> x.firstBuyIn());
        LendingPool x = busy();
        x.returnShares(0, 9);
        due(x.firstBuyIn(), 2);
        x.returnShares(0, 1);
        due(outcome(x, y -> y.firstBuyIn()), java.util.NoSuchElementException.class);
        LendingPool z = busy();
        z.passDays(2);
        due(outcome(z, y -> y.firstBuyIn()), java.util.NoSuchElementException.class);
        z.undo();
        due(z.firstBuyIn(), 2);
    }

    // ---- promise 46

    @Says(at = "Promise 46", words = "Finds the least price of a security (1 to 9999; all others stay) at which the exposure of a borrower"
        + " would be above the credit.")
    static void promise46_leastPrice() {
        // 150 * 6666 is 999900, and 150 * 6667 is 1000050.
        answers(6667, Edge::busy, x -> x.breakingPrice(0, 0));
        LendingPool x = Check.pool("pool 0 0;security 1 0;lender 0 100 0;borrower 9998;borrower 9999;holding 0 0 9;");
        x.borrow(0, 0, 1, 0);
        x.borrow(1, 0, 1, 0);
        due(x.breakingPrice(0, 0), 9999);
        due(outcome(x, y -> y.breakingPrice(1, 0)), java.util.NoSuchElementException.class);
        LendingPool z = small();
        z.buyShares(0, 1, 10);
        z.borrow(1, 1, 10, 0);
        z.borrow(1, 0, 20, 0);
        int[] others = {50, 498, 499, 500, 501};
        int[] least = {226, 2, 1, 1, 1};
        // 4500, 20, 10 and 0 are left for the 20 shares, and then less than nothing.
        for (int i = 0; i < others.length; i++) {
            z.setPrice(1, others[i]);
            due(z.breakingPrice(1, 0), least[i]);
        }
        due(z.security(0, 0), 100);
    }

    @Says(at = "Promise 46", words = "Throws `IndexOutOfBoundsException` if there is no such lender, borrower or security")
    static void promise46_noSuchBorrowerOrSecurity() {
        index(Edge::busy, x -> x.breakingPrice(2, 0), x -> x.breakingPrice(-1, 0), x -> x.breakingPrice(0, 2),
            x -> x.breakingPrice(0, -1), x -> x.breakingPrice(LOW, 0), x -> x.breakingPrice(0, HIGH));
        index(Edge::empty, x -> x.breakingPrice(0, 0));
        index(Edge::full, x -> x.breakingPrice(4, 0), x -> x.breakingPrice(0, 4));
        // 100004 - 1100 is 98904; 70 * 1412 is 98840, and 70 * 1413 is 98910.
        answers(1413, Edge::full, x -> x.breakingPrice(3, 3));
    }

    @Says(at = "Promise 46", words = "NoSuchElementException if there is no such price")
    static void promise46_noSuchPrice() {
        element(Edge::small, x -> x.breakingPrice(0, 0));
        element(Edge::busy, x -> x.breakingPrice(1, 0), x -> x.breakingPrice(0, 1));
        LendingPool x = small();
        x.borrow(0, 0, 100, 0);
        // 100 * 9999 is below 1000000, and 101 * 9999 is above it.
        due(outcome(x, y -> y.breakingPrice(0, 0)), java.util.NoSuchElementException.class);
        x.borrow(0, 0, 1, 0);
        due(x.breakingPrice(0, 0), 9901);
        x.borrow(1, 0, 50, 0);
        // The exposure is as great as the credit, whatever security 1 costs; then it is above it.
        due(outcome(x, y -> y.breakingPrice(1, 1)), java.util.NoSuchElementException.class);
        x.setPrice(0, 101);
        due(x.breakingPrice(1, 1), 1);
        LendingPool z = Check.pool("pool 0 0;security 1 0;security 1 0;lender 0 100 0;borrower 7;holding 0 0 9;");
        z.borrow(0, 0, 1, 0);
        z.setPrice(0, 7);
        due(outcome(z, y -> y.breakingPrice(0, 1)), java.util.NoSuchElementException.class);
        // Now security 0 alone is above the credit, by one.
        z.setPrice(0, 8);
        due(z.breakingPrice(0, 1), 1);
        due(z.breakingPrice(0, 0), 8);
    }

    // ---- promise 47

    @Says(at = "Promise 47", words = "`quantity`: 1 to 99999")
    static void promise47_quantity() {
        answers(0, Edge::wide, x -> x.bestPolicy(0, 1));
        answers(1, Edge::wide, x -> x.bestPolicy(0, 99999));
        argument(Edge::wide, x -> x.bestPolicy(0, 0), x -> x.bestPolicy(0, -1), x -> x.bestPolicy(0, 100000),
            x -> x.bestPolicy(0, LOW), x -> x.bestPolicy(0, HIGH));
    }

    /** Lender 0 has 10 of 100 on loan and was served last, lender 1 has 2 of 10. */
    private static LendingPool unequal() {
        LendingPool x = held(100, 10);
        x.setPolicy(2);
        x.borrow(0, 0, 1, 0);
        x.borrow(0, 0, 2, 0);
        x.borrow(0, 0, 9, 0);
        return x;
    }

    @Says(at = "Promise 47", words = "Returns 0 to 2; of several the lowest.")
    static void promise47_0To2() {
        // All alike: every policy gives everything.
        answers(0, Edge::small, x -> x.bestPolicy(0, 200));
        // 3 and 0 and 0, but 1 and 1 and 1 with policy 1.
        answers(1, () -> held(9, 9, 9), x -> x.bestPolicy(0, 3));
        // Policy 0 gives 8 of lender 0 (18 and 2), policy 1 gives 7 of it (17 and 3), policy 2 gives 8 of lender 1 (10 and 10).
        answers(2, EdgesOfThought::unequal, x -> x.bestPolicy(0, 8));
        // Lender 0 has 2 of 100 on loan and one available, lender 1 has 1 of 10: policies 1 and 2 give one of lender 1.
        LendingPool x = held(100, 10);
        x.setPolicy(2);
        x.borrow(0, 0, 1, 0);
        x.borrow(0, 0, 1, 0);
        x.borrow(0, 0, 1, 0);
        x.setLimit(0, 3);
        due(x.onLoan(0, 0) + " " + x.onLoan(1, 0) + " " + x.available(0, 0), "2 1 1");
        due(x.bestPolicy(0, 1), 1);
        due(x.count(6), 2);
    }

    @Says(at = "Promise 47", words = "the one with the least difference of the greatest and the least number of shares that any lender would"
        + " have on loan in this security afterwards")
    static void promise47_leastDifference() {
        // A lender without a holding has 0 on loan afterwards, whatever the policy is: 4 and 0, 2 and 2, each with a 0.
        answers(1, () -> held(4, 4, 0), x -> x.bestPolicy(0, 4));
        answers(0, () -> held(0, 0, 0, 0, 0, 7), x -> x.bestPolicy(0, 7));
        // Lender 1 has 6 of 8 on loan, lender 0 has 1 of 2 and one available: it is lender 1 that has the most afterwards.
        LendingPool y = held(2, 8);
        y.setPolicy(2);
        y.borrow(0, 0, 1, 0);
        y.borrow(0, 0, 6, 0);
        // All policies give one of each (2 and 7).
        due(y.bestPolicy(0, 2), 0);
        // Policies 0 and 2 give one of lender 0 (2 and 6), policy 1 gives one of lender 1 (1 and 7).
        due(y.bestPolicy(0, 1), 0);
        // Lender 0 has 5 of 5 on loan. Policies 0 and 2 give 4 of lender 1 (5, 4 and 0), policy 1 gives 2 of each (5, 2 and 2).
        LendingPool z = held(5, 8, 8);
        z.borrow(0, 0, 5, 0);
        due(z.bestPolicy(0, 4), 1);
        // Policy 0 gives 9: 8 and 1 (5, 8 and 1); policy 1 gives 5 and 4 (5, 5 and 4).
        due(z.bestPolicy(0, 9), 1);
        // Policy 0 gives 8 and 5 (5, 8 and 5), policy 1 gives 7 and 6 (5, 7 and 6).
        due(z.bestPolicy(0, 13), 1);
        answers(0, Edge::full, x -> x.bestPolicy(0, 50));
    }

    @Says(at = "Promise 47", words = "Throws `IndexOutOfBoundsException` if there is no such lender, borrower or security")
    static void promise47_noSuchSecurity() {
        index(Edge::busy, x -> x.bestPolicy(2, 1), x -> x.bestPolicy(-1, 1), x -> x.bestPolicy(LOW, 1), x -> x.bestPolicy(HIGH, 1));
        index(Edge::empty, x -> x.bestPolicy(0, 1));
        index(Edge::full, x -> x.bestPolicy(4, 1));
    }

    @Says(at = "Promise 47", words = "IllegalArgumentException if an argument is out of its range")
    static void promise47_argument() {
        index(Edge::busy, x -> x.bestPolicy(2, 0), x -> x.bestPolicy(-1, 100000));
        argument(Edge::busy, x -> x.bestPolicy(1, 0), x -> x.bestPolicy(1, 100000));
        argument(Edge::full, x -> x.bestPolicy(3, 0), x -> x.bestPolicy(3, 100000));
    }

    @Says(at = "Promise 47", words = "IllegalStateException if fewer shares are available")
    static void promise47_fewerShares() {
        answers(0, Edge::busy, x -> x.bestPolicy(0, 50));
        state(Edge::busy, x -> x.bestPolicy(0, 51), x -> x.bestPolicy(1, 1), x -> x.bestPolicy(0, 99999));
        state(Edge::small, x -> x.bestPolicy(0, 201));
        state(Edge::full, x -> x.bestPolicy(0, 51), x -> x.bestPolicy(3, 1));
        state(() -> Check.pool("pool 0 0;security 1 1;"), x -> x.bestPolicy(0, 1));
    }
}
