/** Promises 54 and 55: undo. */
public final class UndoTest {
    private static final Check CHECK = new Check();
    private static final String POOL = "pool 2 10;security 100 3600;security 50 0;lender 50 100 15;lender 100 50 0;"
        + "lender 33 100 100;borrower 1000000;borrower 5000;holding 0 0 100;holding 1 0 100;holding 2 0 50;";

    public static void main(String[] args) {
        promise54EachChange();
        promise54TenChanges();
        promise54AfterUndo();
        promise55UndoDepth();
        CHECK.end();
    }

    /** All that a pool tells and that a change could have touched. */
    private static String all(LendingPool x) {
        StringBuilder text = new StringBuilder(Check.report(x)).append(Check.accounts(x));
        for (int what = 0; what <= 8; what++) {
            text.append(" ").append(x.count(what));
        }
        for (int what = 0; what <= 5; what++) {
            text.append(" ").append(x.total(what));
        }
        for (int s = 0; s < x.count(0); s++) {
            text.append("\n").append(x.security(s, 0)).append(" ").append(x.security(s, 1)).append(" ").append(x.lastServed(s));
            for (int l = 0; l < x.count(1); l++) {
                text.append(" ").append(x.holding(l, s)).append("/").append(x.available(l, s));
            }
        }
        for (int i = 0; i < x.count(3); i++) {
            for (int what = 0; what < 8; what++) {
                text.append(" ").append(x.loan(x.openLoan(i), what));
            }
        }
        return text.toString();
    }

    private static void undone(LendingPool x, String what, Check.Call change) {
        String before = all(x);
        int depth = x.undoDepth();
        change.answer();
        CHECK.due(what + " is a change", x.undoDepth(), depth + 1);
        String after = all(x);
        CHECK.due("undo of " + what, x.undo(), depth);
        CHECK.due("the state before " + what, all(x), before);
        change.answer();
        CHECK.due(what + " once more", all(x), after);
    }

    private static void promise54EachChange() {
        LendingPool x = Check.pool(POOL);
        CHECK.state("nothing to undo", () -> x.undo());
        undone(x, "setPolicy", () -> x.setPolicy(2));
        undone(x, "borrow", () -> x.borrow(0, 0, 160, 9));
        undone(x, "recall", () -> x.recall(0, 0, 60));
        undone(x, "passDays", () -> x.passDays(4));
        undone(x, "payDividend", () -> x.payDividend(0, 7));
        undone(x, "buyShares", () -> x.buyShares(0, 1, 7));
        undone(x, "sellShares", () -> x.sellShares(0, 1, 3));
        undone(x, "returnShares", () -> x.returnShares(0, 140));
        LendingPool y = Check.pool(POOL);
        undone(y, "setPrice", () -> y.setPrice(1, 7));
        undone(y, "setRate", () -> y.setRate(1, 7));
        undone(y, "setLimit", () -> y.setLimit(1, 7));
        undone(y, "runOrders", () -> Check.orders(y, "borrow 0 0 9 9;pass 9;price 0 7;"));
        undone(y, "runOrders without orders", () -> y.runOrders());
        undone(y, "a change of nothing", () -> y.setLimit(1, 7));
        LendingPool z = Check.pool(POOL);
        z.buyShares(2, 1, 6);
        z.borrow(0, 0, 5, 3);
        z.passDays(1);
        z.borrow(1, 1, 6, 4);
        z.passDays(1);
        z.borrow(0, 0, 7, 5);
        undone(z, "a closing in the middle", () -> z.returnShares(1, 6));
        undone(z, "another one", () -> z.returnShares(0, 5));
        z.undo();
        z.undo();
        z.undo();
        CHECK.due("back to two loans", Check.report(z), "day 2 loans 2\nloan 0 of 5 0:5\nloan 1 of 6 2:6\n");
        CHECK.due("the number is free again", z.borrow(0, 0, 1, 0), 2);
    }

    private static void promise54TenChanges() {
        LendingPool x = Check.pool(POOL);
        for (int i = 1; i <= 25; i++) {
            x.setPrice(0, i);
            CHECK.due("depth", x.undoDepth(), Math.min(i, 10));
        }
        for (int i = 24; i >= 15; i--) {
            CHECK.due("can still be undone", x.undo(), i - 15);
            CHECK.due("price", x.security(0, 0), i);
        }
        CHECK.state("an eleventh", () -> x.undo());
        CHECK.due("price", x.security(0, 0), 15);
    }

    private static void promise54AfterUndo() {
        LendingPool x = Check.pool(POOL);
        for (int i = 1; i <= 12; i++) {
            x.setPrice(0, i);
        }
        for (int i = 0; i < 4; i++) {
            x.undo();
        }
        x.setPrice(0, 77);
        CHECK.due("depth", x.undoDepth(), 7);
        CHECK.due("undo", x.undo(), 6);
        CHECK.due("price", x.security(0, 0), 8);
        CHECK.due("undo", x.undo(), 5);
        CHECK.due("price", x.security(0, 0), 7);
        Check.write(x, "pool 0 0;");
        x.undo();
        CHECK.due("the buffer is not undone", x.truncateText(9), 9);
        CHECK.state("a refused change", () -> x.borrow(0, 1, 1, 1));
        CHECK.due("is none", x.undoDepth(), 4);
        x.parsePool();
        CHECK.state("a new pool", () -> x.undo());
    }

    private static void promise55UndoDepth() {
        LendingPool x = new LendingPool();
        CHECK.due("at first", x.undoDepth(), 0);
        x.passDays(1);
        x.setPolicy(0);
        x.runOrders();
        CHECK.due("three changes", x.undoDepth(), 3);
        x.writeReport();
        x.accountAfter(9, 2, 0);
        x.boughtInAfter(9);
        x.appendText(1, 2, 3, 4, 5);
        x.truncateText(1);
        x.parsePool();
        x.appendText(1, 2, 3, 4, 5);
        x.runOrders();
        CHECK.argument("refused", () -> x.passDays(0));
        CHECK.due("still three", x.undoDepth(), 3);
        x.undo();
        CHECK.due("two", x.undoDepth(), 2);
        Check.parse(x, "pool 1 1;");
        CHECK.due("a new pool", x.undoDepth(), 0);
    }
}
