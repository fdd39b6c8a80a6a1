/** Promises 30 to 36, sentence by sentence. */
final class EdgesOfLoans extends Edge {
    private EdgesOfLoans() {
    }

    @Says(at = "Promise 30", words = "`index`: 0 for the open loan with the lowest number")
    static void promise30_theLowestNumberFirst() {
        answers(0, Edge::full, x -> x.openLoan(0));
        LendingPool x = full();
        x.returnShares(0, 50);
        due(x.openLoan(0) + " " + x.openLoan(10), "1 11");
        // The new loan stands last, though it takes the room of the closed one.
        x.borrow(0, 0, 1, 0);
        due(x.openLoan(0) + " " + x.openLoan(10) + " " + x.openLoan(11), "1 11 12");
    }

    @Says(at = "Promise 30", words = "Throws `IndexOutOfBoundsException` if there is no such index")
    static void promise30_noSuchIndex() {
        index(Edge::empty, x -> x.openLoan(0), x -> x.openLoan(-1));
        index(Edge::small, x -> x.openLoan(0));
        answers(0, Edge::busy, x -> x.openLoan(0));
        answers(1, Edge::busy, x -> x.openLoan(1));
        index(Edge::busy, x -> x.openLoan(2), x -> x.openLoan(-1), x -> x.openLoan(LOW), x -> x.openLoan(HIGH));
        answers(11, Edge::full, x -> x.openLoan(11));
        index(Edge::full, x -> x.openLoan(12));
        LendingPool x = full();
        x.returnShares(0, 50);
        x.returnShares(11, 70);
        due(x.openLoan(0) + " " + x.openLoan(9), "1 10");
        due(outcome(x, y -> y.openLoan(10)), IndexOutOfBoundsException.class);
        x.undo();
        due(x.openLoan(10), 11);
    }

    @Says(at = "Promise 31", words = "6: the least due day of its slices (NONE if there is none)")
    static void promise31_leastDueDay() {
        answers(2, Edge::busy, x -> x.loan(0, 6));
        answers(NONE, Edge::busy, x -> x.loan(1, 6));
        LendingPool x = held(10, 10);
        x.borrow(0, 0, 20, 0);
        due(x.loan(0, 6), NONE);
        x.recall(1, 0, 1);
        x.passDays(1);
        x.recall(0, 0, 1);
        due(x.slice(0, 0, 2) + " " + x.slice(0, 1, 2) + " " + x.loan(0, 6), "3 2 2");
        x.returnShares(0, 1);
        due(x.loan(0, 6), 3);
        x.returnShares(0, 1);
        due(x.loan(0, 6), NONE);
        // A due day can be 0.
        LendingPool y = lone(0, 0);
        y.borrow(0, 0, 5, 0);
        y.recall(0, 0, 1);
        due(y.loan(0, 6), 0);
    }

    @Says(at = "Promise 31", words = "Throws `IndexOutOfBoundsException` if there is no such open loan")
    static void promise31_noSuchOpenLoan() {
        index(Edge::empty, x -> x.loan(0, 0));
        index(Edge::small, x -> x.loan(0, 0));
        index(Edge::busy, x -> x.loan(2, 0), x -> x.loan(-1, 0), x -> x.loan(LOW, 0), x -> x.loan(HIGH, 0));
        index(Edge::full, x -> x.loan(12, 0));
        int[] last = {3, 3, 70, 110, 0, 0, NONE, 1};
        LendingPool x = full();
        for (int what = 0; what <= 7; what++) {
            due(x.loan(11, what), last[what]);
        }
        x.returnShares(11, 70);
        due(outcome(x, y -> y.loan(11, 0)), IndexOutOfBoundsException.class);
    }

    @Says(at = "Promise 31", words = "IllegalArgumentException if an argument is out of its range")
    static void promise31_argument() {
        int[] first = {0, 0, 120, 10, 0, 10, 2, 3};
        LendingPool x = busy();
        for (int what = 0; what <= 7; what++) {
            due(x.loan(0, what), first[what]);
        }
        argument(Edge::busy, y -> y.loan(0, 8), y -> y.loan(0, -1), y -> y.loan(1, LOW), y -> y.loan(1, HIGH));
        argument(Edge::full, y -> y.loan(11, 8), y -> y.loan(11, -1));
        index(Edge::busy, y -> y.loan(2, 8), y -> y.loan(-1, -1));
    }

    @Says(at = "Promise 32", words = "0: shares (0 if there is no such slice); 1: recalled shares; 2: due day (NONE if there is none)")
    static void promise32_noSuchSlice() {
        LendingPool x = busy();
        due(x.slice(0, 0, 0) + " " + x.slice(0, 0, 1) + " " + x.slice(0, 0, 2), "50 10 2");
        due(x.slice(0, 1, 0) + " " + x.slice(0, 1, 1) + " " + x.slice(0, 1, 2), "50 0 -1");
        due(x.slice(1, 0, 0) + " " + x.slice(1, 0, 1) + " " + x.slice(1, 0, 2), "0 0 -1");
        x.passDays(2);
        due(x.slice(0, 0, 0) + " " + x.slice(0, 0, 1) + " " + x.slice(0, 0, 2), "40 0 -1");
        LendingPool y = lone(0, 0);
        y.borrow(0, 0, 5, 0);
        y.recall(0, 0, 5);
        due(y.slice(0, 0, 0) + " " + y.slice(0, 0, 1) + " " + y.slice(0, 0, 2), "5 5 0");
    }

    @Says(at = "Promise 32", words = "Throws `IndexOutOfBoundsException` if there is no such open loan or lender")
    static void promise32_noSuchOpenLoanOrLender() {
        index(Edge::empty, x -> x.slice(0, 0, 0));
        index(Edge::small, x -> x.slice(0, 0, 0));
        index(Edge::busy, x -> x.slice(2, 0, 0), x -> x.slice(-1, 0, 0), x -> x.slice(0, 3, 0), x -> x.slice(0, -1, 0),
            x -> x.slice(LOW, 0, 0), x -> x.slice(0, HIGH, 0));
        answers(30, Edge::busy, x -> x.slice(1, 2, 0));
        index(Edge::full, x -> x.slice(12, 0, 0), x -> x.slice(0, 6, 0));
        answers(70, Edge::full, x -> x.slice(11, 5, 0));
        LendingPool x = busy();
        x.returnShares(1, 30);
        due(outcome(x, y -> y.slice(1, 2, 0)), IndexOutOfBoundsException.class);
    }

    @Says(at = "Promise 32", words = "IllegalArgumentException if an argument is out of its range")
    static void promise32_argument() {
        argument(Edge::busy, x -> x.slice(0, 0, 3), x -> x.slice(0, 0, -1), x -> x.slice(1, 0, LOW), x -> x.slice(1, 0, HIGH));
        argument(Edge::full, x -> x.slice(11, 5, 3), x -> x.slice(11, 5, -1));
        index(Edge::busy, x -> x.slice(2, 0, 3), x -> x.slice(0, 3, 3), x -> x.slice(-1, -1, -1));
    }

    @Says(at = "Promise 33", words = "Returns the sum, which may be negative.")
    static void promise33_mayBeNegative() {
        answers(9, Edge::busy, x -> x.dailyFee(0));
        answers(2, Edge::busy, x -> x.dailyFee(1));
        LendingPool x = busy();
        x.setRate(0, 10);
        due(x.dailyFee(0) + " " + x.dailyFee(1), "0 0");
        x.setPrice(0, 9999);
        x.setRate(0, 0);
        // 50 * 9999 * -10 / 3600000 is -1.39, twice, 20 * 9999 * -10 / 3600000 is -0.56; 30 * 9999 * -20 / 3600000 is -1.67.
        due(x.dailyFee(0) + " " + x.dailyFee(1), "-2 -1");
        LendingPool y = wide();
        y.borrow(0, 0, 99999, 9999);
        y.setPrice(0, 9999);
        due(y.dailyFee(0), -2777194);
        y.setRate(0, 9999);
        due(y.dailyFee(0), 0);
    }

    @Says(at = "Promise 33", words = "Throws `IndexOutOfBoundsException` if there is no such open loan")
    static void promise33_noSuchOpenLoan() {
        index(Edge::empty, x -> x.dailyFee(0));
        index(Edge::small, x -> x.dailyFee(0));
        index(Edge::busy, x -> x.dailyFee(2), x -> x.dailyFee(-1), x -> x.dailyFee(LOW), x -> x.dailyFee(HIGH));
        index(Edge::full, x -> x.dailyFee(12));
        // 70 * 14 * (400 - 110) is below 3600000.
        answers(0, Edge::full, x -> x.dailyFee(11));
        LendingPool x = busy();
        x.returnShares(1, 30);
        due(outcome(x, y -> y.dailyFee(1)), IndexOutOfBoundsException.class);
    }

    @Says(at = "Promise 34", words = "Returns 0 or more.")
    static void promise34_0OrMore() {
        answers(0, Edge::small, x -> x.recallable(0, 0));
        answers(0, Edge::busy, x -> x.recallable(0, 1));
        answers(40, Edge::busy, x -> x.recallable(0, 0));
        LendingPool x = busy();
        x.recall(0, 0, 39);
        due(x.recallable(0, 0), 1);
        x.recall(0, 0, 1);
        due(x.recallable(0, 0), 0);
        due(outcome(x, y -> y.recall(0, 0, 1)), IllegalStateException.class);
        answers(100, Edge::full, y -> y.recallable(0, 0));
    }

    @Says(at = "Promise 34", words = "Throws `IndexOutOfBoundsException` if there is no such lender, borrower or security")
    static void promise34_noSuchLenderOrSecurity() {
        answers(50, Edge::busy, x -> x.recallable(2, 0));
        index(Edge::busy, x -> x.recallable(3, 0), x -> x.recallable(-1, 0), x -> x.recallable(0, 2), x -> x.recallable(0, -1),
            x -> x.recallable(LOW, 0), x -> x.recallable(0, HIGH));
        index(Edge::empty, x -> x.recallable(0, 0));
        index(Edge::full, x -> x.recallable(6, 0), x -> x.recallable(0, 4));
        answers(70, Edge::full, x -> x.recallable(5, 3));
    }

    @Says(at = "Promise 35", words = "Throws `IndexOutOfBoundsException` if there is no such lender, security or index")
    static void promise35_noSuchLenderSecurityOrIndex() {
        answers(1, Edge::busy, x -> x.recallOrder(2, 0, 0));
        answers(0, Edge::busy, x -> x.recallOrder(2, 0, 1));
        index(Edge::busy, x -> x.recallOrder(2, 0, 2), x -> x.recallOrder(2, 0, -1), x -> x.recallOrder(0, 0, 1),
            x -> x.recallOrder(0, 1, 0), x -> x.recallOrder(3, 0, 0), x -> x.recallOrder(-1, 0, 0), x -> x.recallOrder(0, 2, 0),
            x -> x.recallOrder(0, -1, 0), x -> x.recallOrder(LOW, HIGH, 0), x -> x.recallOrder(0, 0, HIGH),
            x -> x.recallOrder(0, 0, LOW));
        index(Edge::empty, x -> x.recallOrder(0, 0, 0));
        index(Edge::small, x -> x.recallOrder(0, 0, 0));
        answers(11, Edge::full, x -> x.recallOrder(5, 3, 0));
        index(Edge::full, x -> x.recallOrder(5, 3, 1), x -> x.recallOrder(6, 0, 0), x -> x.recallOrder(0, 4, 0));
        LendingPool x = lone(0, 0);
        for (int i = 0; i < 12; i++) {
            x.borrow(0, 0, 1, i);
        }
        for (int i = 0; i < 12; i++) {
            due(x.recallOrder(0, 0, i), 11 - i);
        }
        due(outcome(x, y -> y.recallOrder(0, 0, 12)), IndexOutOfBoundsException.class);
    }

    @Says(at = "Promise 36", words = "Throws `IndexOutOfBoundsException` if there is no such open loan or index")
    static void promise36_noSuchOpenLoanOrIndex() {
        // Of loan 0 the 10 recalled of lender 0 first, then 50 of lender 1, 40 of lender 0 and 20 of lender 2.
        int[] order = {0, 1, 0, 2};
        LendingPool x = busy();
        for (int i = 0; i < order.length; i++) {
            due(x.returnOrder(0, i), order[i]);
        }
        index(Edge::busy, y -> y.returnOrder(0, 4), y -> y.returnOrder(0, -1), y -> y.returnOrder(0, LOW),
            y -> y.returnOrder(0, HIGH), y -> y.returnOrder(1, 1), y -> y.returnOrder(2, 0), y -> y.returnOrder(-1, 0),
            y -> y.returnOrder(LOW, 0), y -> y.returnOrder(HIGH, 0));
        index(Edge::empty, y -> y.returnOrder(0, 0));
        index(Edge::small, y -> y.returnOrder(0, 0));
        answers(5, Edge::full, y -> y.returnOrder(11, 0));
        index(Edge::full, y -> y.returnOrder(11, 1), y -> y.returnOrder(12, 0));
        LendingPool z = held(2, 2, 2, 2, 2, 2);
        z.borrow(0, 0, 12, 0);
        for (int l = 0; l < 6; l++) {
            z.recall(l, 0, 1);
        }
        // Each of the six slices stands in the order twice.
        due(z.returnOrder(0, 11), 5);
        due(outcome(z, y -> y.returnOrder(0, 12)), IndexOutOfBoundsException.class);
    }

    @Says(at = "Promise 36", words = "first the slices with recalled shares, then the other ones (a slice that still has other shares stands"
        + " in the order a second time)")
    static void promise36_aSecondTime() {
        LendingPool x = held(10, 10);
        x.borrow(0, 0, 20, 0);
        x.recall(0, 0, 9);
        x.recall(1, 0, 10);
        // Lender 0 keeps one share that is not recalled, lender 1 keeps none.
        due(x.returnOrder(0, 0) + " " + x.returnOrder(0, 1) + " " + x.returnOrder(0, 2), "0 1 0");
        due(outcome(x, y -> y.returnOrder(0, 3)), IndexOutOfBoundsException.class);
        x.recall(0, 0, 1);
        due(x.returnOrder(0, 0) + " " + x.returnOrder(0, 1), "0 1");
        due(outcome(x, y -> y.returnOrder(0, 2)), IndexOutOfBoundsException.class);
        due(x.loan(0, 2) + " " + x.loan(0, 5), "20 20");
    }
}
