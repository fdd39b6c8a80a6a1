/** A pool as great as the document allows: 4 securities, 6 lenders, 4 borrowers and 12 open loans. */
public final class FullTest {
    private static final Check CHECK = new Check();

    public static void main(String[] args) {
        fullPool();
        fullReturnOrder();
        fullText();
        CHECK.end();
    }

    private static String text() {
        StringBuilder text = new StringBuilder("pool 1 0;");
        text.append("security 1000 3600;".repeat(3)).append("security 7 0;");
        text.append("lender 50 100 50;".repeat(6));
        text.append("borrower 9999999;".repeat(4));
        for (int l = 0; l < 6; l++) {
            text.append("holding ").append(l).append(" 0 100;");
        }
        return text.toString();
    }

    /** Loan i is of borrower i % 4, and lender i % 6 gave its 50 shares. */
    private static LendingPool twelveLoans() {
        LendingPool x = Check.pool(text());
        for (int i = 0; i < 12; i++) {
            x.borrow(i % 4, 0, 50, 0);
        }
        return x;
    }

    private static void fullPool() {
        LendingPool x = twelveLoans();
        CHECK.due("open loans", x.count(3), 12);
        CHECK.due("the last one", x.slice(11, 5, 0), 50);
        // A day's fee of a loan is 50: 25 to the lender, 25 to the agent.
        x.passDays(1);
        CHECK.due("fees", Check.accounts(x), "50 50 50 50 50 50 -150 -150 -150 -150 300 0 0");
        CHECK.due("dividend", x.payDividend(0, 1), 600L);
        x.buyShares(5, 3, 1);
        CHECK.due("accounts", Check.accounts(x), "100 100 100 100 100 93 -300 -300 -300 -300 300 300 7");
        CHECK.due("balances of the lenders", x.total(5), 593L);
        CHECK.due("loans", x.total(4), 600000L);
        CHECK.due("exposure", x.exposure(3), 150000L);
        CHECK.element("150 * 9999 is below the credit", () -> x.breakingPrice(3, 0));
        CHECK.due("utilization", x.utilization(0), 1.0);
        CHECK.due("recallable", x.recallable(5, 0), 100);
        CHECK.due("fewest", x.fewestLoans(5, 0, 51), 2);
        CHECK.due("tightest", x.tightestLoans(5, 0, 50), 1 << 5);
        CHECK.due("tightest", x.tightestLoans(5, 0, 100), 1 << 5 | 1 << 11);
        CHECK.due("call order", x.recallOrder(5, 0, 1), 11);
        CHECK.due("recalled", x.recall(5, 0, 60), 0);
        CHECK.due("recalled", x.total(3), 60L);
        CHECK.due("first buy-in", x.firstBuyIn(), 2);
        CHECK.due("bought in", x.passDays(2), 60);
        CHECK.due("one loan is closed", x.count(3), 11);
        CHECK.due("the last one", x.openLoan(10), 11);
        CHECK.due("its shares", x.loan(11, 2), 40);
        CHECK.due("a new one", x.borrow(3, 0, 60, 0), 12);
        CHECK.due("ranked last", x.rankedLender(0, 5), 5);
        CHECK.due("richest", x.richestLender(), 0);
    }

    private static void fullReturnOrder() {
        LendingPool x = Check.pool(text());
        x.borrow(0, 0, 600, 0);
        for (int l = 5; l >= 0; l--) {
            x.recall(l, 0, 10 + l);
        }
        // The same due day for all; then 90, 89, 88, 87, 86 and 85 are left.
        for (int i = 0; i < 12; i++) {
            CHECK.due("return order " + i, x.returnOrder(0, i), i % 6);
        }
        for (int i = 12; i < 20; i++) {
            int index = i;
            CHECK.index("return order " + i, () -> x.returnOrder(0, index));
        }
        CHECK.due("all but one", x.returnShares(0, 599), 1);
        CHECK.due("shares", Check.shares(x, 0), "0 0 0 0 0 1");
        CHECK.index("return order of one slice", () -> x.returnOrder(0, 1));
        CHECK.index("return order of one slice", () -> x.returnOrder(0, 2));
        CHECK.index("return order of one slice", () -> x.returnOrder(0, 11));
        CHECK.due("a slice of one share", Check.report(x), "day 0 loans 1\nloan 0 of 1 5:1\n");
    }

    /** Texts that fill the buffer, and signs that stand behind the end of a text. */
    private static void fullText() {
        LendingPool x = new LendingPool();
        CHECK.due("600 signs", Check.parse(x, "pool 1 1;" + " ".repeat(591)), 1);
        CHECK.due("a number at the end", Check.parse(x, "pool 1 1" + " ".repeat(591) + "1"), LendingPool.NONE);
        CHECK.due("position", x.errorPosition(), 599);
        CHECK.due("a word at the end", Check.parse(x, "pool 1 1;" + " ".repeat(587) + "pool"), LendingPool.NONE);
        CHECK.due("position", x.errorPosition(), 596);
        CHECK.due("a wide word", Check.parse(x, "p".repeat(600)), LendingPool.NONE);
        CHECK.due("position", x.errorPosition(), 0);
        CHECK.due("a wide number", Check.parse(x, "pool " + "0".repeat(595)), LendingPool.NONE);
        CHECK.due("position", x.errorPosition(), 5);
        CHECK.due("semicolons", Check.orders(x, ";".repeat(600)), -1);
        CHECK.due("orders up to the end", Check.orders(x, "pass 10;".repeat(75)), 75);
        CHECK.due("a number at the end", Check.orders(x, "pass 10;".repeat(74) + "pass 100"), -601);
        Check.write(x, "pool 1 23;");
        x.truncateText(8);
        CHECK.due("cut within a number", x.parsePool(), LendingPool.NONE);
        CHECK.due("position", x.errorPosition(), 8);
        Check.write(x, "pool 1 23;");
        x.truncateText(8);
        x.appendText(';' << 24 | ' ' << 16 | ' ' << 8 | ' ', 0x20202020, 0x20202020, 0x20202020, 0x20202020);
        CHECK.due("and mended", x.parsePool(), 1);
        CHECK.due("penalty", x.count(8), 2);
        Check.write(x, "pass 1;pass");
        x.truncateText(9);
        CHECK.due("cut within a word", x.runOrders(), -8);
        Check.write(x, "pass 1;pass");
        x.truncateText(7);
        CHECK.due("cut before it", x.runOrders(), 1);
    }
}
