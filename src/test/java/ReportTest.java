/** Promises 48 to 53: rankings, totals and the report. */
public final class ReportTest {
    private static final Check CHECK = new Check();
    private static final int NONE = LendingPool.NONE;
    private static final String POOL = "pool 2 10;security 100 3600;security 50 0;lender 50 100 15;lender 100 50 0;"
        + "lender 33 100 100;borrower 1000000;borrower 5000;holding 0 0 100;holding 1 0 100;holding 2 0 50;";

    public static void main(String[] args) {
        promise48RankedLender();
        promise49RichestLender();
        promise50LastServed();
        promise51Total();
        promise52WriteReport();
        promise52LongReport();
        promise53ReportByte();
        CHECK.end();
    }

    private static String ranks(LendingPool x, int security) {
        StringBuilder text = new StringBuilder();
        for (int i = 0; i < x.count(1); i++) {
            text.append(x.rankedLender(security, i));
        }
        return text.toString();
    }

    private static void promise48RankedLender() {
        LendingPool x = Check.pool(POOL);
        CHECK.due("all alike", ranks(x, 0), "012");
        CHECK.due("without holdings", ranks(x, 1), "012");
        x.borrow(0, 0, 120, 0);
        CHECK.due("used 1, 0.2 and 0", ranks(x, 0), "210");
        CHECK.due("the other security", ranks(x, 1), "012");
        x.sellShares(2, 0, 50);
        CHECK.due("without a holding as if nothing were on loan", ranks(x, 0), "210");
        x.setLimit(2, 0);
        CHECK.due("available or not", ranks(x, 0), "210");
        x.buyShares(0, 0, 400);
        CHECK.due("both 0.2", ranks(x, 0), "201");
        x.buyShares(1, 0, 1);
        CHECK.due("a little less", ranks(x, 0), "210");
        LendingPool y = Check.pool("pool 0 0;security 1 0;lender 0 100 0;lender 0 100 0;borrower 99;holding 0 0 1;holding 1 0 10;");
        y.borrow(0, 0, 7, 0);
        CHECK.due("1 of 1, and 6 of 10", ranks(y, 0), "10");
        CHECK.index("no place", () -> x.rankedLender(0, 3));
        CHECK.index("no place", () -> x.rankedLender(0, -1));
        CHECK.index("no security", () -> x.rankedLender(2, 0));
        CHECK.index("no security", () -> x.rankedLender(-1, 0));
    }

    private static void promise49RichestLender() {
        LendingPool x = Check.pool(POOL);
        CHECK.due("all alike", x.richestLender(), 0);
        x.sellShares(2, 0, 1);
        CHECK.due("lender 2", x.richestLender(), 2);
        x.sellShares(1, 0, 1);
        CHECK.due("of several the lowest", x.richestLender(), 1);
        x.buyShares(1, 0, 2);
        x.buyShares(2, 0, 3);
        x.buyShares(0, 0, 5);
        CHECK.due("the least poor", x.richestLender(), 1);
        LendingPool y = new LendingPool();
        CHECK.element("no lenders", () -> y.richestLender());
    }

    private static void promise50LastServed() {
        LendingPool x = Check.pool(POOL);
        x.borrow(0, 0, 1, 0);
        CHECK.due("not by policy 0", x.lastServed(0), NONE);
        x.setPolicy(1);
        x.borrow(0, 0, 1, 0);
        CHECK.due("not by policy 1", x.lastServed(0), NONE);
        x.setPolicy(2);
        x.borrow(0, 0, 120, 0);
        CHECK.due("lender 1 gave last", x.lastServed(0), 1);
        CHECK.due("of the other security nobody", x.lastServed(1), NONE);
        x.recall(0, 0, 10);
        CHECK.due("a recall serves, too", x.lastServed(0), 2);
        x.undo();
        CHECK.due("undo takes it back", x.lastServed(0), 1);
        x.setPolicy(0);
        x.borrow(0, 0, 5, 0);
        CHECK.due("it stays", x.lastServed(0), 1);
        CHECK.index("no security", () -> x.lastServed(2));
        CHECK.index("no security", () -> x.lastServed(-1));
    }

    private static void promise51Total() {
        LendingPool x = Check.pool(POOL);
        x.borrow(0, 0, 200, 0);
        x.recall(0, 0, 40);
        // Fees of a day: 100 * 100 * 3600 / 3600000 = 10, 5 and 5.
        x.passDays(3);
        // Lender 0 has 40 available then, and lender 1 has the 10 that lender 0 replaces.
        x.recall(1, 0, 10);
        x.recall(2, 0, 50);
        long[] due = {60, 40, 50, 10, 16000, 30 * 50 / 100 + 30 / 2 + 3};
        for (int what = 0; what < due.length; what++) {
            CHECK.due("total " + what, x.total(what), due[what]);
        }
        x.setPrice(0, 7);
        CHECK.due("the present price", x.total(4), 1120L);
        x.buyShares(0, 0, 10);
        CHECK.due("lenders paid 70", x.total(5), -37L);
        CHECK.argument("what 6", () -> x.total(6));
        LendingPool y = Check.pool("pool 0 50;security 2 0;" + "lender 0 100 0;".repeat(6) + "borrower 999;borrower 999;"
            + "holding 0 0 9;holding 5 0 9;");
        y.borrow(1, 0, 9, 0);
        y.borrow(0, 0, 9, 0);
        y.recall(0, 0, 1);
        y.recall(5, 0, 2);
        CHECK.due("recalled of both loans", y.total(3), 3L);
        CHECK.due("worth of both loans", y.total(4), 36L);
        y.passDays(1);
        y.recall(5, 0, 3);
        CHECK.due("one comes from lender 0", y.total(2), 1L);
        y.passDays(1);
        CHECK.due("bought in on both days", y.total(1), 5L);
        y.payDividend(0, 10);
        CHECK.due("accounts", Check.accounts(y), "90 0 0 0 0 40 -62 -83 0 0 15");
        CHECK.due("six lenders", y.total(5), 130L);
        CHECK.argument("what -1", () -> x.total(-1));
    }

    private static void promise52WriteReport() {
        LendingPool x = Check.pool(POOL);
        CHECK.due("length", x.writeReport(), 14);
        CHECK.due("no loans", Check.report(x), "day 0 loans 0\n");
        x.passDays(123);
        x.borrow(0, 0, 160, 0);
        x.borrow(0, 0, 5, 0);
        x.borrow(0, 0, 35, 0);
        x.recall(0, 0, 30);
        x.returnShares(1, 5);
        CHECK.due("two loans", Check.report(x), "day 123 loans 2\nloan 0 of 160 0:100-30 1:50 2:10\nloan 2 of 35 2:35\n");
        x.recall(2, 0, 45);
        CHECK.due("a slice that is recalled whole", Check.report(x),
            "day 123 loans 2\nloan 0 of 160 0:100-30 1:50 2:10-10\nloan 2 of 35 2:35-35\n");
        CHECK.due("no change", x.undoDepth(), 7);
        LendingPool y = Check.pool(POOL);
        y.borrow(0, 0, 101, 0);
        y.setLimit(1, 0);
        y.setLimit(2, 0);
        y.recall(0, 0, 1);
        CHECK.due("one recalled share", Check.report(y), "day 0 loans 1\nloan 0 of 101 0:100-1 1:1\n");
    }

    /** Six lenders with 8333 shares in each of twelve loans, all of them recalled. */
    private static LendingPool allRecalled() {
        StringBuilder holdings = new StringBuilder();
        for (int l = 0; l < 6; l++) {
            holdings.append("holding ").append(l).append(" 0 99999;");
        }
        LendingPool x = Check.pool("pool 30 0;security 1 0;" + "lender 0 100 0;".repeat(6) + "borrower 9999999;" + holdings);
        x.setPolicy(1);
        for (int i = 0; i < 12; i++) {
            x.borrow(0, 0, 49998, 0);
        }
        for (int l = 0; l < 6; l++) {
            x.setLimit(l, 0);
        }
        for (int l = 0; l < 6; l++) {
            x.recall(l, 0, 99996);
        }
        return x;
    }

    private static void promise52LongReport() {
        StringBuilder due = new StringBuilder("day 0 loans 12\n");
        for (int i = 0; i < 12; i++) {
            due.append("loan ").append(i).append(" of 49998");
            for (int l = 0; l < 6; l++) {
                due.append(' ').append(l).append(":8333-8333");
            }
            due.append('\n');
        }
        CHECK.due("its length", allRecalled().writeReport(), due.length());
        CHECK.due("the whole report", Check.longReport(ReportTest::allRecalled), due.toString());
    }

    private static void promise53ReportByte() {
        LendingPool x = Check.pool(POOL);
        CHECK.index("the report is empty at first", () -> x.reportByte(0));
        x.borrow(0, 0, 9, 0);
        int length = x.writeReport();
        CHECK.due("d", x.reportByte(0), (int) 'd');
        CHECK.due("line feed", x.reportByte(length - 1), 10);
        CHECK.index("behind the end", () -> x.reportByte(length));
        CHECK.index("negative", () -> x.reportByte(-1));
        CHECK.index("extreme", () -> x.reportByte(Integer.MAX_VALUE));
        x.returnShares(0, 9);
        CHECK.due("the report stays", x.reportByte(14), (int) 'l');
        x.undo();
        x.undo();
        Check.parse(x, "pool 0 0;");
        CHECK.due("the report stays", x.reportByte(length - 1), 10);
        CHECK.due("a shorter one", x.writeReport(), 14);
        CHECK.index("takes its place", () -> x.reportByte(14));
    }
}
