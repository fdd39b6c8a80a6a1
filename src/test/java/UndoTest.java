/** Promises 54 and 55: undo. */
public final class UndoTest {
    private static final Check CHECK = new Check();
    private static final String POOL = "pool 2 10;security 100 3600;security 50 0;lender 50 100 15;lender 100 50 0;"
        + "lender 33 100 100;borrower 1000000;borrower 5000;holding 0 0 100;holding 1 0 100;holding 2 0 50;";

    public static void main(String[] args) {
        promise54EachChange();
        promise54TenChanges();
        promise54AfterUndo();
        promise55UndoDepth();
        CHECK.end();
    }

    /** Each of the changes is undone on a pool of its own, on which the ones before it were made. */
    private static void undone(Make start, String[] names, Use... changes) {
        for (int i = 0; i < changes.length; i++) {
            LendingPool x = start.pool();
            for (int before = 0; before < i; before++) {
                changes[before].on(x);
            }
            String before = Look.state(x);
            int depth = x.undoDepth();
            changes[i].on(x);
            CHECK.due(names[i] + " is a change", x.undoDepth(), depth + 1);
            String after = Look.state(x);
            CHECK.due("undo of " + names[i], x.undo(), depth);
            CHECK.due("the state before " + names[i], Look.state(x), before);
            changes[i].on(x);
            CHECK.due(names[i] + " once more", Look.state(x), after);
        }
    }

    private static void promise54EachChange() {
        CHECK.state("nothing to undo", () -> Check.pool(POOL).undo());
        undone(() -> Check.pool(POOL),
            new String[] {"setPolicy", "borrow", "recall", "passDays", "payDividend", "buyShares", "sellShares", "returnShares"},
            x -> x.setPolicy(2), x -> x.borrow(0, 0, 160, 9), x -> x.recall(0, 0, 60), x -> x.passDays(4),
            x -> x.payDividend(0, 7), x -> x.buyShares(0, 1, 7), x -> x.sellShares(0, 1, 3), x -> x.returnShares(0, 140));
        undone(() -> Check.pool(POOL),
            new String[] {"setPrice", "setRate", "setLimit", "runOrders", "runOrders without orders", "a change of nothing"},
            x -> x.setPrice(1, 7), x -> x.setRate(1, 7), x -> x.setLimit(1, 7),
            x -> Check.orders(x, "borrow 0 0 9 9;pass 9;price 0 7;"), x -> x.runOrders(), x -> x.setLimit(1, 7));
        undone(UndoTest::threeLoans, new String[] {"a closing in the middle", "another one"},
            x -> x.returnShares(1, 6), x -> x.returnShares(0, 5));
        LendingPool z = threeLoans();
        z.returnShares(1, 6);
        z.returnShares(0, 5);
        z.undo();
        z.undo();
        z.undo();
        CHECK.due("back to two loans", Check.report(z), "day 2 loans 2\nloan 0 of 5 0:5\nloan 1 of 6 2:6\n");
        CHECK.due("the number is free again", z.borrow(0, 0, 1, 0), 2);
    }

    private static LendingPool threeLoans() {
        LendingPool z = Check.pool(POOL);
        z.buyShares(2, 1, 6);
        z.borrow(0, 0, 5, 3);
        z.passDays(1);
        z.borrow(1, 1, 6, 4);
        z.passDays(1);
        z.borrow(0, 0, 7, 5);
        return z;
    }

    private static void promise54TenChanges() {
        LendingPool x = Check.pool(POOL);
        for (int i = 1; i <= 25; i++) {
            x.setPrice(0, i);
            CHECK.due("depth", x.undoDepth(), Math.min(i, 10));
        }
        for (int i = 24; i >= 15; i--) {
            CHECK.due("can still be undone", x.undo(), i - 15);
            CHECK.due("price", x.security(0, 0), i);
        }
        CHECK.state("an eleventh", () -> x.undo());
        CHECK.due("price", x.security(0, 0), 15);
    }

    private static void promise54AfterUndo() {
        LendingPool x = Check.pool(POOL);
        for (int i = 1; i <= 12; i++) {
            x.setPrice(0, i);
        }
        for (int i = 0; i < 4; i++) {
            x.undo();
        }
        x.setPrice(0, 77);
        CHECK.due("depth", x.undoDepth(), 7);
        CHECK.due("undo", x.undo(), 6);
        CHECK.due("price", x.security(0, 0), 8);
        CHECK.due("undo", x.undo(), 5);
        CHECK.due("price", x.security(0, 0), 7);
        Check.write(x, "pool 0 0;");
        x.undo();
        CHECK.due("the buffer is not undone", x.truncateText(9), 9);
        CHECK.state("a refused change", () -> x.borrow(0, 1, 1, 1));
        CHECK.due("is none", x.undoDepth(), 4);
        x.parsePool();
        CHECK.state("a new pool", () -> x.undo());
    }

    private static void promise55UndoDepth() {
        LendingPool x = new LendingPool();
        CHECK.due("at first", x.undoDepth(), 0);
        x.passDays(1);
        x.setPolicy(0);
        x.runOrders();
        CHECK.due("three changes", x.undoDepth(), 3);
        x.writeReport();
        x.accountAfter(9, 2, 0);
        x.boughtInAfter(9);
        x.appendText(1, 2, 3, 4, 5);
        x.truncateText(1);
        x.parsePool();
        x.appendText(1, 2, 3, 4, 5);
        x.runOrders();
        CHECK.argument("refused", () -> x.passDays(0));
        CHECK.due("still three", x.undoDepth(), 3);
        x.undo();
        CHECK.due("two", x.undoDepth(), 2);
        Check.parse(x, "pool 1 1;");
        CHECK.due("a new pool", x.undoDepth(), 0);
    }
}
