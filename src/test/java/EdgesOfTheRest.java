/** Promises 48 to 55, sentence by sentence. */
final class EdgesOfTheRest extends Edge {
    private EdgesOfTheRest() {
    }

    private static String ranks(LendingPool x, int security) {
        StringBuilder text = new StringBuilder();
        for (int place = 0; place < x.count(1); place++) {
            text.append(place == 0 ? "" : " ").append(x.rankedLender(security, place));
        }
        return text.toString();
    }

    @Says(at = "Promise 48", words = "whether it has shares available or not; a lender without a holding counts as if nothing of it were on"
        + " loan")
    static void promise48_withoutAHolding() {
        // Security 0: 50 of 100, 50 of 100 and 50 of 50 are on loan; nobody holds security 1.
        due(ranks(busy(), 0) + ", " + ranks(busy(), 1), "0 1 2, 0 1 2");
        // Security 0: all 100 of 100 but for lender 5 with 50 of 100; security 3: lender 5 alone, 70 of 70.
        due(ranks(full(), 0) + ", " + ranks(full(), 3), "5 0 1 2 3 4, 0 1 2 3 4 5");
        LendingPool x = held(10, 0, 10);
        x.borrow(0, 0, 1, 0);
        due(ranks(x, 0), "1 2 0");
        x.buyShares(1, 0, 5);
        x.borrow(0, 0, 5, 0);
        // Lender 1 has lent all that it has, and lender 2 nothing.
        due(ranks(x, 0), "2 0 1");
        x.returnShares(1, 5);
        x.sellShares(1, 0, 5);
        due(ranks(x, 0), "1 2 0");
    }

    @Says(at = "Promise 48", words = "Throws `IndexOutOfBoundsException` if there is no such security or place")
    static void promise48_noSuchSecurityOrPlace() {
        answers(2, Edge::busy, x -> x.rankedLender(1, 2));
        index(Edge::busy, x -> x.rankedLender(0, 3), x -> x.rankedLender(0, -1), x -> x.rankedLender(2, 0),
            x -> x.rankedLender(-1, 0), x -> x.rankedLender(LOW, 0), x -> x.rankedLender(HIGH, 0), x -> x.rankedLender(0, LOW),
            x -> x.rankedLender(0, HIGH));
        index(Edge::empty, x -> x.rankedLender(0, 0));
        index(() -> Check.pool("pool 0 0;security 1 1;"), x -> x.rankedLender(0, 0));
        answers(4, Edge::full, x -> x.rankedLender(0, 5));
        index(Edge::full, x -> x.rankedLender(0, 6), x -> x.rankedLender(4, 0));
    }

    @Says(at = "Promise 49", words = "Returns the lender with the greatest balance.")
    static void promise49_theGreatestBalance() {
        LendingPool x = held(1, 1, 1, 1, 1, 1);
        // -3, -2, -1, -4, -5 and -6: all have paid, and lender 2 has paid the least.
        int[] bought = {3, 2, 1, 4, 5, 6};
        for (int l = 0; l < 6; l++) {
            x.buyShares(l, 0, bought[l]);
        }
        due(x.richestLender(), 2);
        x.sellShares(5, 0, 6);
        due(x.richestLender(), 5);
        x.setPrice(0, 9999);
        x.sellShares(0, 0, 1);
        due(x.richestLender() + " " + x.account(0, 0), "0 9996");
    }

    @Says(at = "Promise 49", words = "Returns number of the lender; of several the lowest.")
    static void promise49_ofSeveralTheLowest() {
        answers(0, Edge::small, x -> x.richestLender());
        answers(1, Edge::busy, x -> x.richestLender());
        answers(0, Edge::full, x -> x.richestLender());
        LendingPool x = full();
        x.sellShares(5, 0, 1);
        due(x.richestLender(), 5);
        x.returnShares(4, 50);
        x.sellShares(4, 0, 1);
        due(x.richestLender(), 4);
        LendingPool y = held(1, 1, 1);
        y.buyShares(0, 0, 2);
        y.buyShares(1, 0, 1);
        y.buyShares(2, 0, 1);
        // -2, -1 and -1.
        due(y.richestLender(), 1);
    }

    @Says(at = "Promise 49", words = "Throws `NoSuchElementException` if there are no lenders")
    static void promise49_noLenders() {
        element(Edge::empty, x -> x.richestLender());
        element(() -> Check.pool("pool 0 0;security 1 1;borrower 5;"), x -> x.richestLender());
        answers(0, () -> Check.pool("pool 0 0;lender 1 1 1;"), x -> x.richestLender());
    }

    @Says(at = "Promise 50", words = "Returns number of the lender; NONE if there was none.")
    static void promise50_noneIfThereWasNone() {
        answers(NONE, Edge::busy, x -> x.lastServed(0));
        answers(NONE, Edge::full, x -> x.lastServed(3));
        LendingPool x = busy();
        x.setPolicy(1);
        x.borrow(0, 0, 1, 0);
        due(x.lastServed(0), NONE);
        x.setPolicy(2);
        due(x.lastServed(0), NONE);
        due(outcome(x, y -> y.borrow(0, 0, 50, 0)), IllegalStateException.class);
        due(x.lastServed(0), NONE);
        x.borrow(0, 0, 1, 0);
        due(x.lastServed(0) + " " + x.lastServed(1), "0 -1");
        x.undo();
        due(x.lastServed(0), NONE);
        // 49 shares are replaced by lender 0, and one is recalled.
        due(x.recall(1, 0, 50) + " " + x.lastServed(0), "49 0");
        x.truncateText(0);
        Check.parse(x, SMALL);
        due(x.lastServed(0), NONE);
        x.setPolicy(2);
        x.borrow(0, 0, 200, 0);
        due(x.lastServed(0), 2);
        // A recall that replaces nothing is no allocation.
        x.recall(0, 0, 10);
        due(x.lastServed(0), 2);
    }

    @Says(at = "Promise 50", words = "Throws `IndexOutOfBoundsException` if there is no such lender, borrower or security")
    static void promise50_noSuchSecurity() {
        answers(NONE, Edge::busy, x -> x.lastServed(1));
        index(Edge::busy, x -> x.lastServed(2), x -> x.lastServed(-1), x -> x.lastServed(LOW), x -> x.lastServed(HIGH));
        index(Edge::empty, x -> x.lastServed(0));
        index(Edge::full, x -> x.lastServed(4));
    }

    @Says(at = "Promise 51", words = "0: the sum of all fees so far; 1: shares bought in so far; 2: shares replaced by recalls so far; 3: shares"
        + " recalled now; 4: the sum of quantity * price of all open loans; 5: the sum of all balances of the lenders")
    static void promise51_soFarAndNow() {
        LendingPool x = busy();
        // Fees: 11 on each of two days, and 10 on the third, after 10 shares were bought in.
        x.passDays(2);
        x.passDays(1);
        due(x.total(0) + " " + x.total(1) + " " + x.total(2) + " " + x.total(3), "43 10 50 0");
        // Lender 0 has 60 available and replaces 50 of lender 1; then they have 10 and 50 and replace 50 of lender 2.
        due(x.recall(1, 0, 50) + " " + x.recall(2, 0, 50), "50 50");
        due(x.total(2) + " " + x.total(3) + " " + x.total(4), "150 0 14000");
        x.undo();
        due(x.total(2) + " " + x.total(3), "100 0");
        // Lender 1 has 50 available, lender 2 none.
        x.recall(0, 0, 90);
        due(x.total(2) + " " + x.total(3), "150 40");
        due(x.passDays(3) + " " + x.total(1), "40 50");
        due(x.total(4), 10000);
        x.setPrice(0, 1);
        due(x.total(4), 100);
        x.undo();
        x.undo();
        due(x.total(1) + " " + x.total(3), "10 40");
    }

    @Says(at = "Promise 51", words = "Throws `IllegalArgumentException` if what is not 0 to 5")
    static void promise51_what0To5() {
        long[] inBusy = {11, 0, 50, 10, 15000, 6};
        long[] inFull = {0, 0, 0, 0, 550 * 11 + 70 * 14, 0};
        LendingPool busy = busy();
        LendingPool full = full();
        LendingPool empty = empty();
        for (int what = 0; what <= 5; what++) {
            due(empty.total(what) + " " + busy.total(what) + " " + full.total(what), "0 " + inBusy[what] + " " + inFull[what]);
        }
        for (Make make : new Make[] {Edge::empty, Edge::busy, Edge::full}) {
            argument(make, x -> x.total(-1), x -> x.total(6), x -> x.total(LOW), x -> x.total(HIGH));
        }
    }

    @Says(at = "Promise 52", words = "Writes a report, in place of the previous one.")
    static void promise52_inPlaceOfThePreviousOne() {
        LendingPool x = busy();
        String first = "day 1 loans 2\nloan 0 of 120 0:50-10 1:50 2:20\nloan 1 of 30 2:30\n";
        due(Look.report(x), first + "(end)");
        due(x.writeReport(), first.length());
        x.returnShares(0, 120);
        x.returnShares(1, 30);
        // The report stays until the next one is written, which is shorter.
        due(Look.report(x), first + "(end)");
        due(x.writeReport(), 14);
        due(Look.report(x), "day 1 loans 0\n(end)");
    }

    @Says(at = "Promise 52", words = "and, if shares are recalled, a minus sign and their number")
    static void promise52_ifSharesAreRecalled() {
        LendingPool x = held(10, 0, 5);
        x.borrow(0, 0, 15, 0);
        due(Check.report(x), "day 0 loans 1\nloan 0 of 15 0:10 2:5\n");
        x.recall(0, 0, 1);
        x.recall(2, 0, 5);
        due(Check.report(x), "day 0 loans 1\nloan 0 of 15 0:10-1 2:5-5\n");
        x.returnShares(0, 6);
        due(Check.report(x), "day 0 loans 1\nloan 0 of 9 0:9\n");
        x.returnShares(0, 8);
        due(Check.report(x), "day 0 loans 1\nloan 0 of 1 0:1\n");
        // Lender 2 has five shares again, but lends none of them: the only share of lender 0 is recalled.
        x.setLimit(2, 0);
        x.recall(0, 0, 1);
        due(Check.report(x), "day 0 loans 1\nloan 0 of 1 0:1-1\n");
    }

    @Says(at = "Promise 52", words = "Then follows one line for each open loan by ascending number")
    static void promise52_oneLineForEachOpenLoan() {
        due(Check.report(empty()), "day 0 loans 0\n");
        StringBuilder lines = new StringBuilder("day 0 loans 12\n");
        for (int i = 0; i < 11; i++) {
            lines.append("loan ").append(i).append(" of 50 ").append(i % 6).append(":50\n");
        }
        lines.append("loan 11 of 70 5:70\n");
        due(Check.report(full()), lines.toString());
        LendingPool x = wide();
        x.borrow(0, 0, 99999, 0);
        x.passDays(400);
        due(Check.report(x), "day 400 loans 1\nloan 0 of 99999 0:99999\n");
    }

    @Says(at = "Promise 53", words = "The report is empty at first.")
    static void promise53_emptyAtFirst() {
        index(Edge::empty, x -> x.reportByte(0), x -> x.reportByte(-1));
        index(Edge::small, x -> x.reportByte(0));
        index(Edge::full, x -> x.reportByte(0));
        LendingPool x = empty();
        x.writeReport();
        due(x.reportByte(0), 'd' + 0);
    }

    @Says(at = "Promise 53", words = "Throws `IndexOutOfBoundsException` if there is no such byte")
    static void promise53_noSuchByte() {
        answers('d' + 0, Edge::busy, x -> x.reportByte(0));
        int length = busy().writeReport();
        answers(10, Edge::busy, x -> x.reportByte(length - 1));
        index(Edge::busy, x -> x.reportByte(length), x -> x.reportByte(-1), x -> x.reportByte(LOW), x -> x.reportByte(HIGH));
        LendingPool x = busy();
        x.returnShares(1, 30);
        x.returnShares(0, 120);
        x.writeReport();
        due(x.reportByte(13), 10);
        due(outcome(x, y -> y.reportByte(14)), IndexOutOfBoundsException.class);
        due(outcome(x, y -> y.reportByte(length - 1)), IndexOutOfBoundsException.class);
    }

    @Says(at = "Promise 54", words = "Throws `IllegalStateException` if there is none")
    static void promise54_none() {
        state(Edge::empty, x -> x.undo());
        state(Edge::small, x -> x.undo());
        LendingPool x = busy();
        for (int left = 3; left >= 0; left--) {
            due(x.undo(), left);
        }
        due(outcome(x, y -> y.undo()), IllegalStateException.class);
        due(Look.state(x), Look.state(small()));
        LendingPool y = full();
        for (int left = 9; left >= 0; left--) {
            due(y.undo(), left);
        }
        // Two of the twelve loans were made before the latest ten changes.
        due(outcome(y, z -> z.undo()), IllegalStateException.class);
        due(y.count(3) + " " + y.count(4), "2 2");
        y.borrow(0, 0, 1, 0);
        due(y.undo() + " " + y.count(4), "0 2");
        due(outcome(y, z -> z.undo()), IllegalStateException.class);
    }

    @Says(at = "Promise 54", words = "Undoes the latest change that was not undone yet.")
    static void promise54_latestNotUndone() {
        LendingPool x = small();
        x.setPrice(0, 1);
        x.setPrice(0, 2);
        x.undo();
        x.setPrice(0, 3);
        x.setPrice(0, 4);
        x.undo();
        due(x.security(0, 0), 3);
        x.undo();
        due(x.security(0, 0), 1);
        x.undo();
        due(x.security(0, 0) + " " + x.undoDepth(), "100 0");
    }

    @Says(at = "Promise 55", words = "Returns 0 to 10.")
    static void promise55_0To10() {
        LendingPool x = empty();
        for (int changes = 0; changes <= 25; changes++) {
            due(x.undoDepth(), Math.min(changes, 10));
            x.passDays(1);
        }
        for (int left = 9; left >= 0; left--) {
            due(x.undo() + " " + x.undoDepth(), left + " " + left);
        }
        due(x.count(5), 16);
        for (int changes = 1; changes <= 12; changes++) {
            x.setPolicy(changes % 3);
            due(x.undoDepth(), Math.min(changes, 10));
        }
        answers(10, Edge::full, y -> y.undoDepth());
        answers(4, Edge::busy, y -> y.undoDepth());
    }
}
