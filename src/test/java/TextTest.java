/** Promises 1 to 6: the new object, the text buffer and pool texts. */
public final class TextTest {
    private static final Check CHECK = new Check();
    private static final int NONE = LendingPool.NONE;

    public static void main(String[] args) {
        promise1NewObject();
        promise2AppendText();
        promise3TruncateText();
        promise4ParsePool();
        promise4NewPoolReplacesAll();
        promise5And6Errors();
        promise5And6Ranges();
        promise5And6TooMany();
        promise5And6Later();
        CHECK.end();
    }

    private static void promise1NewObject() {
        LendingPool x = new LendingPool();
        CHECK.due("NONE", LendingPool.NONE, -1);
        for (int what = 0; what <= 8; what++) {
            CHECK.due("count " + what, x.count(what), 0);
        }
        for (int what = 0; what <= 5; what++) {
            CHECK.due("total " + what, x.total(what), 0L);
        }
        CHECK.due("accounts", Check.accounts(x), "0 0 0");
        CHECK.due("undoDepth", x.undoDepth(), 0);
        CHECK.due("errorCode", x.errorCode(), 0);
        CHECK.due("errorPosition", x.errorPosition(), NONE);
        CHECK.index("reportByte 0", () -> x.reportByte(0));
        CHECK.index("security 0", () -> x.security(0, 0));
        CHECK.index("lender 0", () -> x.lender(0, 0));
        CHECK.index("credit 0", () -> x.credit(0));
        CHECK.index("openLoan 0", () -> x.openLoan(0));
        CHECK.due("passDays", x.passDays(3), 0);
        CHECK.due("setPolicy", x.setPolicy(2), 0);
        CHECK.due("undoDepth", x.undoDepth(), 2);
    }

    private static void promise2AppendText() {
        LendingPool x = new LendingPool();
        for (int i = 1; i <= 30; i++) {
            CHECK.due("append " + i, x.appendText(-1, 0, 1, Integer.MIN_VALUE, Integer.MAX_VALUE), 20 * i);
        }
        CHECK.state("append 31", () -> x.appendText(0, 0, 0, 0, 0));
        CHECK.due("length stays", x.truncateText(600), 600);
        CHECK.due("truncate", x.truncateText(581), 581);
        CHECK.state("append to 601", () -> x.appendText(0, 0, 0, 0, 0));
        CHECK.due("truncate", x.truncateText(580), 580);
        CHECK.due("append to 600", x.appendText(0, 0, 0, 0, 0), 600);
        LendingPool y = new LendingPool();
        y.appendText('p' << 24 | 'o' << 16 | 'o' << 8 | 'l', ' ' << 24 | '1' << 16 | '2' << 8 | ' ',
            '3' << 24 | '4' << 16 | ';' << 8 | ' ', 0x20202020, 0x0a0a0a0a);
        CHECK.due("bytes in order", y.parsePool(), 1);
        CHECK.due("notice", y.count(7), 12);
        CHECK.due("penalty", y.count(8), 34);
        y.appendText(0x20202020, 0x20202020, 0x20202020, 0x20202020, 0x202020ff);
        y.parsePool();
        CHECK.due("byte 255 stands last", y.errorPosition(), 19);
        y.appendText(0xffffffff, 0, 0, 0, 0);
        y.parsePool();
        CHECK.due("byte 255 stands first", y.errorPosition(), 0);
    }

    private static void promise3TruncateText() {
        LendingPool x = new LendingPool();
        CHECK.due("truncate empty", x.truncateText(0), 0);
        CHECK.argument("truncate above", () -> x.truncateText(1));
        CHECK.argument("truncate negative", () -> x.truncateText(-1));
        x.appendText(0x706f6f6c, 0x20302030, 0x3b303030, 0x30303030, 0x30303030);
        CHECK.argument("truncate above", () -> x.truncateText(21));
        CHECK.due("truncate to all", x.truncateText(20), 20);
        CHECK.due("truncate", x.truncateText(9), 9);
        CHECK.argument("truncate back", () -> x.truncateText(10));
        CHECK.due("the first signs stay", x.parsePool(), 1);
        CHECK.argument("empty after parsePool", () -> x.truncateText(1));
        CHECK.argument("extremes", () -> x.truncateText(Integer.MAX_VALUE));
        CHECK.argument("extremes", () -> x.truncateText(Integer.MIN_VALUE));
    }

    private static void promise4ParsePool() {
        LendingPool x = new LendingPool();
        CHECK.due("all statements", Check.parse(x, "\n pool 5 7 ;\n security 100 36;security 9999 9999;"
            + "lender 1 2 3;lender 100 100 100;borrower 9999999;borrower 0;holding 1 0 99999;holding 0 1 7;"
            + "holding 0 1 8;holding 1 0 0;  "), 11);
        CHECK.due("securities", x.count(0), 2);
        CHECK.due("lenders", x.count(1), 2);
        CHECK.due("borrowers", x.count(2), 2);
        CHECK.due("notice", x.count(7), 5);
        CHECK.due("penalty", x.count(8), 7);
        CHECK.due("price", x.security(0, 0), 100);
        CHECK.due("rate", x.security(0, 1), 36);
        CHECK.due("split", x.lender(0, 0), 1);
        CHECK.due("limit", x.lender(0, 1), 2);
        CHECK.due("tax", x.lender(0, 2), 3);
        CHECK.due("credit", x.credit(0), 9999999);
        CHECK.due("holding at first", x.holding(0, 0), 0);
        CHECK.due("the last holding counts", x.holding(0, 1), 8);
        CHECK.due("the last holding counts", x.holding(1, 0), 0);
        CHECK.due("wrong text", Check.parse(x, "pool 1 1;security 1 1;lender"), NONE);
        CHECK.due("the pool stays", x.count(0) * 10 + x.count(7), 25);
        CHECK.argument("the buffer is empty", () -> x.truncateText(1));
        CHECK.due("tokens without blanks", Check.parse(x, "pool7 8;security9 1;lender0 0 0;holding0 0 5;"), 4);
        CHECK.due("holding", x.holding(0, 0), 5);
        CHECK.due("leading zeros", Check.parse(x, "pool 0000030 0000100;"), 1);
        CHECK.due("notice", x.count(7), 30);
    }

    private static void promise4NewPoolReplacesAll() {
        LendingPool x = Check.pool("pool 1 2;security 10 360;lender 50 100 0;borrower 9999;holding 0 0 100;");
        x.setPolicy(2);
        x.borrow(0, 0, 50, 0);
        x.recall(0, 0, 5);
        x.passDays(40);
        x.buyShares(0, 0, 3);
        x.payDividend(0, 3);
        CHECK.due("a look ahead", x.accountAfter(3, 4, 0) != 0, true);
        CHECK.due("wrong text keeps changes", Check.parse(x, "pool"), NONE);
        CHECK.due("undoDepth", x.undoDepth(), 6);
        CHECK.due("new pool", Check.parse(x, "pool 3 4;security 20 0;lender 0 0 0;borrower 1;"), 4);
        CHECK.due("undoDepth", x.undoDepth(), 0);
        CHECK.state("undo", () -> x.undo());
        CHECK.due("accounts", Check.accounts(x), "0 0 0 0 0");
        for (int what = 3; what <= 6; what++) {
            CHECK.due("count " + what, x.count(what), 0);
        }
        for (int what = 0; what <= 5; what++) {
            CHECK.due("total " + what, x.total(what), 0L);
        }
        CHECK.due("holding", x.holding(0, 0), 0);
        CHECK.due("lastServed", x.lastServed(0), NONE);
    }

    private static void wrong(String text, int code, int position) {
        LendingPool x = new LendingPool();
        CHECK.due("parsePool of " + text, Check.parse(x, text), NONE);
        CHECK.due("errorCode of " + text, x.errorCode(), code);
        CHECK.due("errorPosition of " + text, x.errorPosition(), position);
        CHECK.argument("buffer after " + text, () -> x.truncateText(1));
    }

    private static void right(String text, int statements) {
        LendingPool x = new LendingPool();
        CHECK.due("parsePool of " + text, Check.parse(x, text), statements);
        CHECK.due("errorCode of " + text, x.errorCode(), 0);
        CHECK.due("errorPosition of " + text, x.errorPosition(), NONE);
    }

    private static void promise5And6Errors() {
        wrong("", 1, 0);
        wrong(" \n ", 1, 3);
        wrong("pool", 1, 4);
        wrong("pool 1 2", 1, 8);
        wrong("pool 1 2  ", 1, 10);
        wrong("pool 1;", 1, 6);
        wrong("pool 1 2 3;", 1, 9);
        wrong("pool 1 2 12345678;", 1, 9);
        wrong("pool 1 x;", 1, 7);
        wrong("pool;", 1, 4);
        wrong(";", 1, 0);
        wrong("7;", 1, 0);
        wrong("pools 1 2;", 1, 0);
        wrong("poo 1 2;", 1, 0);
        wrong("x security 1 1;", 1, 0);
        wrong("Pool 1 2;", 1, 0);
        wrong("xool 1 2;", 1, 0);
        wrong("poox 1 2;", 1, 0);
        wrong("poolz 1 2;", 1, 0);
        wrong("poola 1 2;", 1, 0);
        wrong("poolX 1 2;", 1, 4);
        wrong("pool\t1 2;", 1, 4);
        wrong("pool 1\r2;", 1, 6);
        wrong("pool -1 2;", 1, 5);
        wrong("pool 1 2;\u0000", 1, 9);
        wrong("pool 1 2;\u00e9", 1, 9);
        wrong("pool 1 2;;", 1, 9);
        wrong("pool 1 2; borrow 0 0 1 1;", 1, 10);
        wrong("pool 1 2;securitypool", 1, 9);
        wrong("pool 1 2;`", 1, 9);
        wrong("pool 1 2;{", 1, 9);
        wrong("pool 1 /;", 1, 7);
        wrong("pool 1 :;", 1, 7);
        wrong("security 1 1;", 3, 0);
        wrong(" holding 0 0 0;", 3, 1);
        wrong("lender", 3, 0);
        wrong("borrower 5;", 3, 0);
        wrong("pool 1 2;pool 1 2;", 3, 9);
        wrong("pool 1 2;\npool", 3, 10);
        wrong("pool 1 2;holding 0 0 5;", 4, 17);
        wrong("pool 1 2;lender 1 1 1;holding 0 0 5;", 4, 32);
        wrong("pool 1 2;lender 1 1 1;holding 1 0 5;", 4, 30);
        wrong("pool 1 2;lender 1 1 1;holding 9999999 0 5;", 4, 30);
        wrong("pool 1 2;lender 1 1 1;holding 10000000 0 5;", 2, 30);
        wrong("pool 1 2;lender 1 1 1;holding 00000000 0 5;", 2, 30);
        wrong("pool 1 2;security 1 1;lender 1 1 1;holding 0 00000000 5;", 2, 45);
        wrong("pool 1 2;security 1 1;lender 1 1 1;holding 0 1 5;", 4, 45);
        wrong("pool 1 2;security 1 1;lender 1 1 1;holding 0 0 100000;", 2, 47);
        wrong("pool 1 2;security 1 1;lender 1 1 1;holding 0 0;", 1, 46);
        wrong("pool 1 2;security 1 1;holding 0 0 5;lender 1 1 1;", 4, 30);
    }

    private static void promise5And6Ranges() {
        right("pool 0 0;", 1);
        right("pool 30 100;", 1);
        wrong("pool 31 0;", 2, 5);
        wrong("pool 0 101;", 2, 7);
        wrong("pool 00000001 0;", 2, 5);
        wrong("pool 4294967296 0;", 2, 5);
        right("pool 0 0;security 1 0;security 9999 9999;", 3);
        wrong("pool 0 0;security 0 1;", 2, 18);
        wrong("pool 0 0;security 10000 1;", 2, 18);
        wrong("pool 0 0;security 1 10000;", 2, 20);
        right("pool 0 0;lender 0 0 0;lender 100 100 100;", 3);
        wrong("pool 0 0;lender 101 0 0;", 2, 16);
        wrong("pool 0 0;lender 0 101 0;", 2, 18);
        wrong("pool 0 0;lender 0 0 101;", 2, 20);
        right("pool 0 0;borrower 0;borrower 9999999;", 3);
        wrong("pool 0 0;borrower 10000000;", 2, 18);
        right("pool 0 0;security 1 1;lender 0 0 0;holding 0 0 0;holding 0 0 99999;", 5);
        right("pool 0 0;security 1 1;lender 0 0 0;holding 0000000 0000000 0000009;", 4);
    }

    private static void promise5And6TooMany() {
        String securities = "security 1 1;".repeat(4);
        String lenders = "lender 1 1 1;".repeat(6);
        String borrowers = "borrower 1;".repeat(4);
        right("pool 0 0;" + securities + lenders + borrowers + "holding 5 3 8;", 16);
        wrong("pool 0 0;" + securities + "security 1 1;", 5, 9 + 13 * 4);
        wrong("pool 0 0;" + lenders + "lender x", 5, 9 + 13 * 6);
        wrong("pool 0 0;" + borrowers + "  borrower", 5, 9 + 11 * 4 + 2);
        wrong("pool 0 0;" + securities + "pool", 3, 9 + 13 * 4);
        wrong("pool 0 0;" + securities + lenders + "holding 6 0 1;", 4, 9 + 13 * 10 + 8);
        wrong("pool 0 0;" + securities + lenders + "holding 0 4 1;", 4, 9 + 13 * 10 + 10);
    }

    private static void promise5And6Later() {
        LendingPool x = new LendingPool();
        Check.parse(x, "pool 1 99999;");
        Check.orders(x, "nonsense");
        CHECK.due("errorCode after orders", x.errorCode(), 2);
        CHECK.due("errorPosition after orders", x.errorPosition(), 7);
        Check.parse(x, "pool 1 2;");
        CHECK.due("errorCode after a right text", x.errorCode(), 0);
        CHECK.due("errorPosition after a right text", x.errorPosition(), NONE);
        x.passDays(1);
        Check.parse(x, "x");
        x.undo();
        CHECK.due("errorCode after undo", x.errorCode(), 1);
        CHECK.due("errorPosition after undo", x.errorPosition(), 0);
    }
}
