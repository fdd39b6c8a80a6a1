import java.util.LinkedHashMap;
import java.util.Map;

/** Where one sentence of the document meets another. */
public final class MeetTest {
    private static final Check CHECK = new Check();

    public static void main(String[] args) {
        refusedBetweenTwoChanges();
        changeAfterUndo();
        poolTextWrongLate();
        orderTextWrongLate();
        lookBeforeAndAfterAChange();
        lookAndThenTheChange();
        sliceRecalledInPart();
        policyJustSet();
        ordersMeetThePolicy();
        newPoolMeetsTheOldOne();
        CHECK.end();
    }

    private static void due(String what, Object got, Object want) {
        CHECK.due(what, String.valueOf(got), String.valueOf(want));
    }

    private static Map<String, Use> refused() {
        Map<String, Use> calls = new LinkedHashMap<>();
        calls.put("borrow of no borrower", x -> x.borrow(2, 0, 1, 0));
        calls.put("borrow of no security", x -> x.borrow(0, 2, 1, 0));
        calls.put("borrow of 0", x -> x.borrow(0, 0, 0, 0));
        calls.put("borrow of too many", x -> x.borrow(0, 0, 51, 0));
        calls.put("borrow above the credit", x -> x.borrow(1, 0, 51, 0));
        calls.put("returnShares of no loan", x -> x.returnShares(2, 1));
        calls.put("returnShares of too many", x -> x.returnShares(0, 121));
        calls.put("recall of too many", x -> x.recall(0, 0, 41));
        calls.put("recall of no lender", x -> x.recall(3, 0, 1));
        calls.put("passDays of 401", x -> x.passDays(401));
        calls.put("payDividend of 0", x -> x.payDividend(0, 0));
        calls.put("buyShares of too many", x -> x.buyShares(0, 0, 99900));
        calls.put("sellShares of too many", x -> x.sellShares(0, 0, 51));
        calls.put("setPrice of 0", x -> x.setPrice(0, 0));
        calls.put("setRate of 10000", x -> x.setRate(0, 10000));
        calls.put("setLimit of 101", x -> x.setLimit(0, 101));
        calls.put("setPolicy of 3", x -> x.setPolicy(3));
        calls.put("quote of too many", x -> x.quote(0, 51, 0));
        calls.put("wouldReplace of too many", x -> x.wouldReplace(0, 0, 41));
        calls.put("tightestLoans of too many", x -> x.tightestLoans(2, 0, 51));
        calls.put("bestPolicy of too many", x -> x.bestPolicy(0, 51));
        calls.put("accountAfter of no account", x -> x.accountAfter(3, 2, 1));
        calls.put("recallOrder of no index", x -> x.recallOrder(2, 0, 2));
        calls.put("returnOrder of no index", x -> x.returnOrder(0, 4));
        calls.put("truncateText", x -> x.truncateText(9));
        return calls;
    }

    /** Sections 6 and 7: between two changes it is as if the refused call had never been made, also for undo. */
    private static void refusedBetweenTwoChanges() {
        refused().forEach((name, call) -> {
            LendingPool x = Edge.busy();
            LendingPool y = Edge.busy();
            x.setPolicy(2);
            y.setPolicy(2);
            due(name + " is refused", Edge.outcome(x, call) instanceof Class, true);
            due(name + ", then borrow", x.borrow(0, 0, 20, 5), y.borrow(0, 0, 20, 5));
            due(name + ", then everything", Look.all(x), Look.all(y));
        });
        LendingPool x = Edge.busy();
        x.setPrice(0, 7);
        due("refused", Edge.outcome(x, z -> z.setPrice(0, 10000)), IllegalArgumentException.class);
        x.setPrice(0, 8);
        due("the first undo goes to the first change", x.undo() + " " + x.security(0, 0), "5 7");
        due("the second undo goes before it", x.undo() + " " + x.security(0, 0), "4 100");
    }

    private static Map<String, Use> changes() {
        Map<String, Use> calls = new LinkedHashMap<>();
        calls.put("borrow", x -> x.borrow(0, 0, 13, 15));
        calls.put("borrow by policy 2", x -> Check.orders(x, "recall 1 0 50;") + x.setPolicy(2) + x.borrow(0, 0, 10, 15));
        calls.put("returnShares", x -> x.returnShares(0, 45));
        calls.put("returnShares of all", x -> x.returnShares(0, 120));
        calls.put("recall", x -> x.recall(1, 0, 50));
        calls.put("recall of two loans", x -> x.recall(2, 0, 50));
        calls.put("passDays", x -> x.passDays(4));
        calls.put("payDividend", x -> x.payDividend(0, 3));
        calls.put("buyShares", x -> x.buyShares(2, 1, 30));
        calls.put("sellShares", x -> x.sellShares(0, 0, 50));
        calls.put("setPrice", x -> x.setPrice(0, 333));
        calls.put("setRate", x -> x.setRate(0, 1));
        calls.put("setLimit", x -> x.setLimit(1, 100));
        calls.put("setPolicy", x -> x.setPolicy(1));
        calls.put("runOrders", x -> Check.orders(x, "return 1 30;pass 3;borrow 0 0 60 1;price 0 9;dividend 0 2;"));
        return calls;
    }

    private static LendingPool busyWithoutText() {
        LendingPool x = Edge.busy();
        x.truncateText(0);
        return x;
    }

    /** Section 6: a change after undo is as if the undone one had never been made, and is itself undone alone. */
    private static void changeAfterUndo() {
        changes().forEach((firstName, first) -> changes().forEach((secondName, second) -> {
            String name = firstName + ", undo, " + secondName;
            LendingPool x = busyWithoutText();
            String before = Look.state(x);
            first.on(x);
            undoTo(x, 4);
            due(name + ": undone", Look.state(x), before);
            LendingPool y = busyWithoutText();
            due(name + ": the answer", second.on(x), second.on(y));
            due(name + ": all", Look.all(x), Look.all(y));
        }));
        LendingPool x = Edge.busy();
        due("a loan", x.borrow(0, 0, 10, 0), 2);
        due("undone", x.undo() + " " + x.count(4), "4 2");
        due("there is no such loan", Edge.outcome(x, y -> y.loan(2, 2)), IndexOutOfBoundsException.class);
        due("the next loan bears its number", x.borrow(0, 0, 9, 0) + " " + x.loan(2, 2), "2 9");
    }

    private static void undoTo(LendingPool x, int depth) {
        for (int i = 0; i < 10 && x.undoDepth() > depth; i++) {
            x.undo();
        }
    }

    /** Section 5 and promise 4: all but the last token are right, and the pool stays whole, for later calls too. */
    private static void poolTextWrongLate() {
        String[] texts = {"pool 9 9;security 7 7;lender 1 1 1;borrower 9;holding 0 0 9;pool", "pool 9 9;security 7 7;lender 1 1 1;:",
            "pool 9 9;security 7 7;lender 1 1 1;holding 0 0 100000;", "pool 9 9;security 7 7;lender 1 1 1;holding 0 1 9;",
            "pool 9 9;security 7 7;lender 1 1 1;borrower 9"};
        int[] codes = {3, 1, 2, 4, 1};
        int[] positions = {60, 35, 47, 45, 45};
        for (int i = 0; i < texts.length; i++) {
            LendingPool x = busyWithoutText();
            due(texts[i], Check.parse(x, texts[i]) + " " + x.errorCode() + " " + x.errorPosition(),
                "-1 " + codes[i] + " " + positions[i]);
            due("the pool stays", Look.state(x), Look.state(Edge.busy()));
            // Fees of 11, 11 and, without the ten shares that are bought in for 1100, 10; 11 were paid before.
            due("looks ahead", x.quote(0, 20, 0) + " " + x.accountAfter(3, 1, 0) + " " + x.boughtInAfter(2), "20 -1143 10");
            due("undo", x.undo() + " " + x.count(5) + " " + x.errorCode(), "3 0 " + codes[i]);
            due("a text that is right", Check.parse(x, "pool 3 4;") + " " + x.errorCode() + " " + x.errorPosition(), "1 0 -1");
        }
    }

    /** Section 5 and promise 18: the orders before the wrong place have left nothing behind. */
    private static void orderTextWrongLate() {
        String good = "borrow 0 0 20 5;recall 2 0 25;return 1 10;price 0 9;dividend 0 3;pass 9;";
        String[] ends = {"pass 401;", "pass 1", "pass 1 1;", "pass 00000001;", "return 7 1;", "borrow 0 0 1 0:", "x;"};
        int[] places = {0, 6, 7, 5, 0, 14, 0};
        LendingPool right = busyWithoutText();
        right.setPolicy(2);
        due(good, Check.orders(right, good), 6);
        due("lender 0 was served", right.lastServed(0), 0);
        for (int i = 0; i < ends.length; i++) {
            LendingPool x = busyWithoutText();
            x.setPolicy(2);
            String before = Look.state(x);
            due(ends[i], Check.orders(x, good + ends[i]), -1 - good.length() - places[i]);
            due("nothing is left", Look.state(x), before);
            due("nobody was served", x.lastServed(0), -1);
            due("no change", x.undoDepth(), 5);
            due("the next loan", x.borrow(0, 0, 1, 0), 2);
            due("undo", x.undo() + " " + x.undo() + " " + x.count(6), "5 4 0");
        }
    }

    /** Promises 37 to 47 on the busy pool, then again after a change, after a look that was refused, and after undo. */
    private static void lookBeforeAndAfterAChange() {
        LendingPool x = Edge.busy();
        // Available: 50 of lender 0. Exposure of borrower 0: 15000. 10 of lender 0 are recalled, due on day 2.
        String first = "50 0 50 20 50 1 6667 2 10";
        due("before", looks(x), first);
        x.setLimit(1, 100);
        // Now also 50 of lender 1; use is 1/2 and 1/2.
        due("a limit", looks(x), "50 0 100 20 50 1 6667 2 10");
        x.setPolicy(1);
        due("a policy", looks(x), "25 25 100 20 50 1 6667 2 10");
        x.setPrice(0, 9000);
        // 1000000 is below 150 * 9000, so nothing can be borrowed.
        due("a price", looks(x), "25 25 0 20 50 1 6667 2 10");
        x.passDays(1);
        due("a day", looks(x), "25 25 0 20 50 1 6667 1 10");
        x.returnShares(0, 10);
        // The recalled shares are back: lender 0 has 60 available, lender 1 has 50; 50 * 60 / 110 is 27.3.
        due("refused", Edge.outcome(x, y -> y.firstBuyIn()), java.util.NoSuchElementException.class);
        due("shares", x.quote(0, 50, 0) + " " + x.quote(0, 50, 1) + " " + x.breakingPrice(0, 0), "27 23 7143");
        for (int i = 0; i < 5; i++) {
            x.undo();
        }
        due("undone", looks(x), first);
    }

    private static String looks(LendingPool x) {
        return x.quote(0, 50, 0) + " " + x.quote(0, 50, 1) + " " + x.borrowable(0, 0) + " " + x.wouldReplace(2, 0, 20)
            + " " + x.tightestSum(2, 0, 31) + " " + x.tightestLoans(2, 0, 20) + " " + x.breakingPrice(0, 0)
            + " " + x.firstBuyIn() + " " + x.boughtInAfter(400);
    }

    /** What a look tells is what the change then does, and the look has not changed it. */
    private static void lookAndThenTheChange() {
        for (int policy = 0; policy <= 2; policy++) {
            for (int quantity = 1; quantity <= 100; quantity += 7) {
                LendingPool x = Edge.busy();
                x.setLimit(1, 100);
                x.setPolicy(policy);
                String quoted = x.quote(0, quantity, 0) + " " + x.quote(0, quantity, 1) + " " + x.quote(0, quantity, 2);
                x.bestPolicy(0, quantity);
                x.borrow(0, 0, quantity, 0);
                due("quote, then borrow", Check.shares(x, 2), quoted);
            }
            for (int quantity = 1; quantity <= 50; quantity += 7) {
                LendingPool x = Edge.busy();
                x.setPolicy(policy);
                int replaced = x.wouldReplace(2, 0, quantity);
                due("wouldReplace, then recall", x.recall(2, 0, quantity), replaced);
            }
        }
        for (int days = 1; days <= 5; days++) {
            LendingPool x = Edge.busy();
            x.setLimit(0, 0);
            x.recall(2, 0, 40);
            String after = x.accountAfter(days, 0, 0) + " " + x.accountAfter(days, 0, 1) + " " + x.accountAfter(days, 0, 2) + " "
                + x.accountAfter(days, 1, 0) + " " + x.accountAfter(days, 1, 1) + " " + x.accountAfter(days, 2, 0) + " "
                + x.accountAfter(days, 3, 0) + " " + x.accountAfter(days, 4, 0);
            int bought = x.boughtInAfter(days);
            due("boughtInAfter, then passDays", x.passDays(days), bought);
            due("accountAfter, then passDays", Check.accounts(x), after);
            // Lender 0's shares are due on day 2, lender 2's on day 3.
            due("bought in", bought, days == 1 ? 0 : days == 2 ? 10 : 50);
        }
    }

    /** Sections 3 and 4 on one slice: a fee of 1 for 100 shares, notice 3, penalty 50. */
    private static void sliceRecalledInPart() {
        LendingPool x = Check.pool("pool 3 50;security 10 3600;lender 50 100 10;lender 0 100 0;borrower 9999999;holding 0 0 1000;");
        x.borrow(0, 0, 1000, 0);
        due("recall", x.recall(0, 0, 400) + " " + slice(x, 0), "0 1000/400@3");
        due("a day", x.passDays(1) + " " + Check.accounts(x), "0 5 0 -10 5 0 0");
        due("a second recall keeps the due day", x.recall(0, 0, 100) + " " + slice(x, 0), "0 1000/500@3");
        due("recallable", x.recallable(0, 0) + " " + x.tightestSum(0, 0, 1), "500 500");
        due("a part of the recalled ones", x.returnShares(0, 200) + " " + slice(x, 0), "800 800/300@3");
        due("the dividend is for recalled shares, too", x.payDividend(0, 1) + " " + x.account(3, 0), "800 80");
        x.buyShares(1, 0, 250);
        due("the rest is replaced in part", x.recall(0, 0, 500) + " " + slice(x, 0) + " " + slice(x, 1), "250 550/550@3 250/0@-1");
        due("whole slices stand once", x.returnOrder(0, 0) + " " + x.returnOrder(0, 1), "0 1");
        due("no third", Edge.outcome(x, y -> y.returnOrder(0, 2)), IndexOutOfBoundsException.class);
        due("nothing is left to recall", Edge.outcome(x, y -> y.recall(0, 0, 1)), IllegalStateException.class);
        due("nor to choose", Edge.outcome(x, y -> y.fewestLoans(0, 0, 1)), java.util.NoSuchElementException.class);
        due("first buy-in", x.firstBuyIn() + " " + x.passDays(2) + " " + x.firstBuyIn(), "3 0 1");
        // Lender 1's shares come back to the very slice that is recalled.
        due("a replacement into it", x.recall(1, 0, 250) + " " + slice(x, 0) + " " + slice(x, 1), "250 800/550@3 0/0@-1");
        due("it stands twice", x.returnOrder(0, 0) + " " + x.returnOrder(0, 1) + " " + x.loan(0, 7), "0 0 1");
        due("the recalled part is bought in", x.passDays(1) + " " + slice(x, 0), "550 250/0@-1");
        due("what is left can be recalled", x.recall(0, 0, 50) + " " + slice(x, 0) + " " + slice(x, 1), "50 200/0@-1 50/0@-1");
        due("totals", x.total(0) + " " + x.total(1) + " " + x.total(2) + " " + x.total(3), "32 550 550 0");
        due("accounts", Check.accounts(x), "733 -2500 -9082 19 80 10750");
    }

    private static String slice(LendingPool x, int lender) {
        return x.slice(0, lender, 0) + "/" + x.slice(0, lender, 1) + "@" + x.slice(0, lender, 2);
    }

    private static String quotes(LendingPool x, int quantity) {
        return x.quote(0, quantity, 0) + " " + x.quote(0, quantity, 1) + " " + x.quote(0, quantity, 2);
    }

    /** Section 2: each allocation is by the policy of its moment; the one served last is known to policy 2 alone. */
    private static void policyJustSet() {
        LendingPool x = Edge.held(100, 60, 40);
        due("policy 0", quotes(x, 50), "50 0 0");
        due("policy 1", x.setPolicy(1) + ": " + quotes(x, 50), "0: 25 15 10");
        due("policy 2", x.setPolicy(2) + ": " + quotes(x, 50), "1: 50 0 0");
        due("a loan", x.borrow(0, 0, 120, 0) + ": " + Check.shares(x, 0) + ", " + x.lastServed(0), "0: 100 20 0, 1");
        due("policy 0", x.setPolicy(0) + ": " + quotes(x, 50), "2: 0 10 40");
        due("policy 2 goes on behind lender 1", x.setPolicy(2) + ": " + quotes(x, 41), "0: 0 1 40");
        due("a loan", x.borrow(0, 0, 5, 0) + ": " + Check.shares(x, 1) + ", " + x.lastServed(0), "1: 0 0 5, 2");
        x.setPolicy(0);
        due("a loan of policy 0", x.borrow(0, 0, 7, 0) + ": " + Check.shares(x, 2) + ", " + x.lastServed(0), "2: 0 0 7, 2");
        x.setPolicy(2);
        due("policy 2 goes on behind lender 2", quotes(x, 5), "0 5 0");
        x.undo();
        due("undone: policy 0", x.count(6) + ": " + quotes(x, 5), "0: 0 0 5");
        x.setPolicy(1);
        due("a recall of policy 1", x.recall(0, 0, 30) + ": " + Check.shares(x, 0) + ", " + x.lastServed(0), "30: 70 38 12, 2");
        x.setPolicy(2);
        due("a look", x.wouldReplace(1, 0, 10) + ", " + x.lastServed(0), "10, 2");
        due("a recall of policy 2", x.recall(1, 0, 10) + ": " + Check.shares(x, 0) + ", " + x.lastServed(0), "10: 80 28 12, 0");
        due("undo", x.undo() + ": " + Check.shares(x, 0) + ", " + x.lastServed(0), "9: 70 38 12, 2");
    }

    /** Sections 2, 5 and 6: the policy holds within an order text, and undo takes back who was served in it. */
    private static void ordersMeetThePolicy() {
        LendingPool x = Edge.held(10, 10, 10);
        x.setPolicy(2);
        due("three loans in turn", Check.orders(x, "borrow 0 0 4 0;borrow 0 0 4 0;borrow 0 0 4 0;"), 3);
        due("shares", Check.shares(x, 0) + ", " + Check.shares(x, 1) + ", " + Check.shares(x, 2), "4 0 0, 0 4 0, 0 0 4");
        due("served", x.lastServed(0), 2);
        due("undo", x.undo() + " " + x.lastServed(0) + " " + x.count(4), "1 -1 0");
        due("a loan again", x.borrow(0, 0, 4, 0) + ": " + Check.shares(x, 0), "0: 4 0 0");
        due("a loan that is closed at once", Check.orders(x, "borrow 0 0 11 0;return 1 11;"), 2);
        due("has been served", x.lastServed(0) + " " + x.count(3) + " " + x.count(4), "2 1 2");
    }

    /** Section 6 and promise 4: of the old pool nothing is left but the report. */
    private static void newPoolMeetsTheOldOne() {
        LendingPool x = Edge.busy();
        x.setPolicy(2);
        x.borrow(0, 0, 30, 0);
        x.truncateText(0);
        due("a new pool", Check.parse(x, Edge.SMALL), 11);
        due("is as on a new object", Look.state(x), Look.state(Edge.small()));
        due("the report stays", Look.report(x), Look.report(Edge.busy()));
        due("no undo", Edge.outcome(x, y -> y.undo()), IllegalStateException.class);
        due("the first loan", x.borrow(0, 0, 120, 10) + ": " + Check.shares(x, 0), "0: 100 20 0");
        due("its undo", x.undo() + " " + x.count(4), "0 0");
        due("no more", Edge.outcome(x, y -> y.undo()), IllegalStateException.class);
    }
}
