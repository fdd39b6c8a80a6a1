/** Promises 1 to 6 and 18 and section 5 of the Description, sentence by sentence. */
final class EdgesOfTexts extends Edge {
    private static final int BLANKS = 0x20202020;

    private EdgesOfTexts() {
    }

    /** A buffer with this many blanks. */
    private static LendingPool blanks(int length) {
        LendingPool x = new LendingPool();
        Check.write(x, " ".repeat(length));
        return x;
    }

    private static Object append(LendingPool x) {
        return x.appendText(BLANKS, BLANKS, BLANKS, BLANKS, BLANKS);
    }

    /** Where the x stands that is the only sign of twenty that is no blank: there the pool text is wrong. */
    private static int placeOfX(int a, int b, int c, int d, int e) {
        LendingPool x = new LendingPool();
        x.appendText(a, b, c, d, e);
        x.parsePool();
        return x.errorPosition();
    }

    // ---- promises 1 to 6

    @Says(at = "Promise 1", words = "Creates an empty pool.")
    static void promise1_empty() {
        for (int what = 0; what <= 8; what++) {
            int asked = what;
            answers(0, Edge::empty, x -> x.count(asked));
        }
        due(Look.all(empty()), "counts 0 0 0 0 0 0 0 0 0\ntotals 0 0 0 0 0 0\naccounts 0 0 0\nborrowers\nlenders\n(end)\n"
            + "error 0 -1\ndepth 0\nbuffer -1 1 0");
    }

    @Says(at = "Promise 2", words = "`a`: characters 0 to 3")
    static void promise2_a() {
        due(placeOfX(0x78202020, BLANKS, BLANKS, BLANKS, BLANKS), 0);
        due(placeOfX(0x20202078, BLANKS, BLANKS, BLANKS, BLANKS), 3);
    }

    @Says(at = "Promise 2", words = "`b`: characters 4 to 7")
    static void promise2_b() {
        due(placeOfX(BLANKS, 0x78202020, BLANKS, BLANKS, BLANKS), 4);
        due(placeOfX(BLANKS, 0x20202078, BLANKS, BLANKS, BLANKS), 7);
    }

    @Says(at = "Promise 2", words = "`c`: characters 8 to 11")
    static void promise2_c() {
        due(placeOfX(BLANKS, BLANKS, 0x78202020, BLANKS, BLANKS), 8);
        due(placeOfX(BLANKS, BLANKS, 0x20202078, BLANKS, BLANKS), 11);
    }

    @Says(at = "Promise 2", words = "`d`: characters 12 to 15")
    static void promise2_d() {
        due(placeOfX(BLANKS, BLANKS, BLANKS, 0x78202020, BLANKS), 12);
        due(placeOfX(BLANKS, BLANKS, BLANKS, 0x20202078, BLANKS), 15);
    }

    @Says(at = "Promise 2", words = "`e`: characters 16 to 19")
    static void promise2_e() {
        due(placeOfX(BLANKS, BLANKS, BLANKS, BLANKS, 0x78202020), 16);
        due(placeOfX(BLANKS, BLANKS, BLANKS, BLANKS, 0x20202078), 19);
    }

    @Says(at = "Promise 2", words = "the four bytes of each argument in order, the most significant byte first")
    static void promise2_theMostSignificantByteFirst() {
        // "pool", " 12 ", "34;" and a line feed; then blanks and line feeds.
        LendingPool x = new LendingPool();
        due(x.appendText(0x706f6f6c, 0x20313220, 0x33343b0a, BLANKS, 0x20200a20), 20);
        due(x.parsePool() + " " + x.count(7) + " " + x.count(8), "1 12 34");
        // The bytes 255 and 128 begin no token, wherever they stand in a negative argument.
        due(placeOfX(0xff202020, BLANKS, BLANKS, BLANKS, BLANKS), 0);
        due(placeOfX(BLANKS, BLANKS, BLANKS, BLANKS, 0x202020ff), 19);
        due(placeOfX(BLANKS, 0x20802020, BLANKS, BLANKS, BLANKS), 5);
        due(placeOfX(BLANKS, BLANKS, 0x20200020, BLANKS, BLANKS), 10);
    }

    @Says(at = "Promise 2", words = "Returns the new length of the buffer.")
    static void promise2_newLength() {
        int[] lengths = {0, 1, 19, 20, 579, 580};
        for (int length : lengths) {
            due(append(blanks(length)), length + 20);
        }
        LendingPool x = blanks(600);
        x.parsePool();
        due(append(x), 20);
        x.runOrders();
        due(append(x), 20);
    }

    @Says(at = "Promise 2", words = "Throws `IllegalStateException` if the length would be above 600")
    static void promise2_above600() {
        due(append(blanks(580)), 600);
        state(() -> blanks(581), EdgesOfTexts::append);
        state(() -> blanks(599), EdgesOfTexts::append);
        state(() -> blanks(600), EdgesOfTexts::append);
        LendingPool x = blanks(581);
        due(outcome(x, EdgesOfTexts::append), IllegalStateException.class);
        due(x.truncateText(581), 581);
        due(x.truncateText(580), 580);
        due(append(x), 600);
        // The text that stands there is not touched by a refused call.
        LendingPool y = new LendingPool();
        Check.write(y, "pool 3 4;" + " ".repeat(591));
        due(outcome(y, z -> z.appendText(-1, -1, -1, -1, -1)), IllegalStateException.class);
        due(y.parsePool() + " " + y.count(7) + " " + y.count(8), "1 3 4");
    }

    @Says(at = "Promise 3", words = "Truncates the text buffer to its first characters.")
    static void promise3_firstCharacters() {
        LendingPool x = new LendingPool();
        Check.write(x, "pool 1 23;security 5 6;");
        due(x.truncateText(10), 10);
        due(x.parsePool() + " " + x.count(7) + " " + x.count(8), "1 1 23");
        Check.write(x, "pool 1 23;");
        x.truncateText(8);
        // Now a semicolon stands where the 3 stood.
        due(x.appendText(0x3b202020, BLANKS, BLANKS, BLANKS, BLANKS), 28);
        due(x.parsePool() + " " + x.count(8), "1 2");
        Check.write(x, "pool 1 23;");
        x.truncateText(8);
        x.parsePool();
        due(x.errorCode() + " at " + x.errorPosition(), "1 at 8");
    }

    @Says(at = "Promise 3", words = "Throws `IllegalArgumentException` if length is negative or above the present length")
    static void promise3_negativeOrAbove() {
        answers(0, Edge::empty, x -> x.truncateText(0));
        argument(Edge::empty, x -> x.truncateText(1), x -> x.truncateText(-1), x -> x.truncateText(LOW),
            x -> x.truncateText(HIGH));
        answers(8, Edge::busy, x -> x.truncateText(8));
        answers(0, Edge::busy, x -> x.truncateText(0));
        argument(Edge::busy, x -> x.truncateText(9), x -> x.truncateText(-1), x -> x.truncateText(600));
        answers(600, () -> blanks(600), x -> x.truncateText(600));
        argument(() -> blanks(600), x -> x.truncateText(601), x -> x.truncateText(-1));
        LendingPool x = blanks(600);
        due(x.truncateText(599), 599);
        due(outcome(x, y -> y.truncateText(600)), IllegalArgumentException.class);
        due(x.truncateText(0), 0);
        due(outcome(x, y -> y.truncateText(1)), IllegalArgumentException.class);
    }

    @Says(at = "Promise 4", words = "If it is correct, the new pool replaces the present one.")
    static void promise4_theNewPoolReplacesAll() {
        String fresh = Look.state(small());
        LendingPool x = busy();
        x.truncateText(0);
        x.setPolicy(2);
        x.borrow(1, 0, 50, 9);
        x.payDividend(0, 3);
        x.buyShares(2, 1, 7);
        x.passDays(9);
        x.recall(2, 0, 1);
        // A look ahead and a refused text leave nothing behind for the new pool, either.
        x.accountAfter(400, 2, 0);
        Check.parse(x, "pool 9 9;security 9 9;lender 9 9 9;holding 0 0 9;x");
        due(Check.parse(x, SMALL), 11);
        due(Look.state(x), fresh);
        due(x.undoDepth(), 0);
        LendingPool y = full();
        y.accountAfter(400, 2, 0);
        due(Check.parse(y, "pool 1 1;security 5 5;lender 1 100 1;borrower 9;"), 4);
        due(Look.state(y), Look.state(right("pool 1 1;security 5 5;lender 1 100 1;borrower 9;", 4)));
    }

    @Says(at = "Promise 4", words = "The buffer is empty afterwards in every case.")
    static void promise4_bufferIsEmpty() {
        for (String text : new String[] {"", "pool 0 0;", "pool 0 0", "x", "pool 0 0;" + " ".repeat(591), ";".repeat(600)}) {
            LendingPool x = new LendingPool();
            Check.write(x, text);
            x.parsePool();
            due(outcome(x, y -> y.truncateText(1)), IllegalArgumentException.class);
            x.parsePool();
            due(x.errorCode() + " at " + x.errorPosition(), "1 at 0");
            due(append(x), 20);
        }
    }

    @Says(at = "Promise 4", words = "Returns the number of statements; NONE if the text has an error, and then the pool stays.")
    static void promise4_statementsOrNone() {
        right("pool 0 0;", 1);
        String most = "pool 0 0;security 1 1;lender 1 1 1;" + "holding0 0 9;".repeat(43);
        right(most, 46);
        LendingPool x = full();
        String before = Look.state(full());
        due(Check.parse(x, ""), NONE);
        due(Check.parse(x, "pool 1 1;security 1 1;lender 1 1 1;borrower 1;holding 0 0 1;x"), NONE);
        due(Look.state(x), before);
        due(x.undoDepth(), 10);
        due(Check.parse(x, "pool 1 1;"), 1);
        due(Look.state(x), Look.state(right("pool 1 1;", 1)));
    }

    @Says(at = "Promise 5", words = "Returns 1 to 5; 0 if it had no error or was never called.")
    static void promise5_codes() {
        String[] texts = {"pool 1 1;", "pool", "pool 31 1;", "pool 1 1;pool", "pool 1 1;holding 0", "pool 1 1;"
            + "borrower 1;".repeat(5), "pool 1 1;"};
        int[] codes = {0, 1, 2, 3, 4, 5, 0};
        LendingPool x = new LendingPool();
        due(x.errorCode(), 0);
        for (int i = 0; i < texts.length; i++) {
            Check.parse(x, texts[i]);
            due(x.errorCode(), codes[i]);
        }
        Check.orders(x, "x");
        due(x.errorCode(), 0);
        x.parsePool();
        due(x.errorCode(), 1);
        Check.orders(x, "pass 1;");
        x.undo();
        due(x.errorCode(), 1);
    }

    @Says(at = "Promise 6", words = "Returns the position; NONE if it had no error or was never called.")
    static void promise6_positions() {
        LendingPool x = new LendingPool();
        due(x.errorPosition(), NONE);
        String[] texts = {"x", "pool 1 1;", "pool 1 1;" + " ".repeat(590) + ";", "pool 1 1" + " ".repeat(592), "pool 1 1;"};
        int[] positions = {0, NONE, 599, 600, NONE};
        for (int i = 0; i < texts.length; i++) {
            Check.parse(x, texts[i]);
            due(x.errorPosition(), positions[i]);
        }
        Check.orders(x, "  x");
        due(x.errorPosition(), NONE);
        x.parsePool();
        due(x.errorPosition(), 0);
    }

    // ---- section 5, pool texts

    @Says(at = "Section 5", words = "This is the first statement, and there is only one.")
    static void section5_poolFirstAndOnlyOnce() {
        right("pool 0 0;", 1);
        wrong("security 1 1;pool 0 0;", 3, 0);
        wrong("pool 0 0;pool 0 0;", 3, 9);
        wrong("pool 0 0;security 1 1;pool 0 0;", 3, 22);
    }

    @Says(at = "Section 5", words = "\"holding L S Q\": the holding of a lender, of a security, that were added before.")
    static void section5_holdingOfWhatWasAddedBefore() {
        right("pool 0 0;security 1 1;lender 1 1 1;holding 0 0 1;", 4);
        wrong("pool 0 0;security 1 1;holding 0 0 1;lender 1 1 1;", 4, 30);
        wrong("pool 0 0;lender 1 1 1;holding 0 0 1;security 1 1;", 4, 32);
        LendingPool x = right("pool 0 0;" + "security 1 1;".repeat(4) + "lender 1 1 1;".repeat(6) + "holding 5 3 7;", 12);
        due(x.holding(5, 3), 7);
    }

    @Says(at = "Section 5", words = "A token is a word (as many letters a to z as follow one another), a number (as many digits as follow"
        + " one another), or a semicolon.")
    static void section5_tokens() {
        right("pool0 0;", 1);
        right("pool12 34;security5 6;", 2);
        wrong("pool 0 0;az", 1, 9);
        // Of one word with letters before or behind it the first byte counts, of two tokens the second one.
        wrong("apool 0 0;", 1, 0);
        wrong("xool 0 0;", 1, 0);
        wrong("poox 0 0;", 1, 0);
        wrong("poo 0 0;", 1, 0);
        wrong("poolz 0 0;", 1, 0);
        wrong("pool 0 0;securityz 1 1;", 1, 9);
        wrong("pool`0 0;", 1, 4);
        wrong("pool{0 0;", 1, 4);
        wrong("poolA 0 0;", 1, 4);
        wrong("poolZ 0 0;", 1, 4);
        wrong("pool 0/0;", 1, 6);
        wrong("pool 0:0;", 1, 6);
        wrong("pool 0 0:", 1, 8);
        wrong("pool 0 0<", 1, 8);
        due(right("pool 09 90;", 1).count(8), 90);
    }

    @Says(at = "Section 5", words = "Blanks (byte 32) and line feeds (byte 10) may stand before, between and after tokens.")
    static void section5_blanksAndLineFeeds() {
        right(" \n pool \n 0\n\n0 \n;\n ", 1);
        right("pool 0 0;" + "\n".repeat(591), 1);
        for (int sign : new int[] {0, 9, 11, 13, 31, 33, 127, 128, 138, 160, 255}) {
            wrong((char) sign + "pool 0 0;", 1, 0);
            wrong("pool" + (char) sign + "0 0;", 1, 4);
            wrong("pool 0 0;" + (char) sign, 1, 9);
        }
    }

    @Says(at = "Section 5", words = "A text without tokens is not correct.")
    static void section5_withoutTokens() {
        wrong("", 1, 0);
        wrong(" ", 1, 1);
        wrong("\n\n", 1, 2);
        wrong(" ".repeat(600), 1, 600);
    }

    @Says(at = "Section 5", words = "a position, which is the index of the first byte of a token, or the length of the text at its end")
    static void section5_position() {
        wrong("x".repeat(600), 1, 0);
        wrong(" ".repeat(599) + "x", 1, 599);
        wrong(" ".repeat(596) + "pool", 1, 600);
        wrong("pool 0 0;  security 1 99999", 2, 22);
        wrong("pool 0 0", 1, 8);
        wrong("pool 0 0 \n", 1, 10);
    }

    @Says(at = "Section 5", words = "The first token with an error counts; the codes are, at one token the lowest one that applies")
    static void section5_firstTokenAndLowestCode() {
        wrong("pool 31 101;x", 2, 5);
        wrong("pool 30 101;x", 2, 8);
        wrong("pool 30 100;x", 1, 12);
        // A token that cannot stand there, whatever else is wrong with it: 1 before 2, 3 and 5.
        wrong("pool 0 0 12345678;", 1, 9);
        wrong("pool 0 pool;", 1, 7);
        wrong("pool 0 0;" + "security 1 1;".repeat(4) + "lender security", 1, 68);
        wrong("99999999", 1, 0);
        // 2 before 4: the eighth digit of a lender that was not added; 3 before 5: a second pool in a full one.
        wrong("pool 0 0;holding 99999999 0 0;", 2, 17);
        wrong("pool 0 0;holding 9999999 0 0;", 4, 17);
        wrong("pool 0 0;" + "security 1 1;".repeat(4) + "pool", 3, 61);
    }

    @Says(at = "Section 5", words = "1: the token cannot stand here (also an unknown word, a byte that begins no token, and the end of the"
        + " text within a statement or of a text without tokens)")
    static void section5_code1() {
        wrong("pool 0 0;;", 1, 9);
        wrong("pool 0 0;5", 1, 9);
        wrong("pool 0 0;pass 1;", 1, 9);
        wrong("pool 0 0;#", 1, 9);
        wrong("pool;", 1, 4);
        wrong("pool 0;", 1, 6);
        wrong("pool 0 0 0;", 1, 9);
        wrong("pool 0 0;security 1;", 1, 19);
        wrong("pool 0 0;security 1 1 1;", 1, 22);
        wrong("pool 0 0;lender 1 1;", 1, 19);
        wrong("pool 0 0;lender 1 1 1 1;", 1, 22);
        wrong("pool 0 0;borrower;", 1, 17);
        wrong("pool 0 0;borrower 1 1;", 1, 20);
        wrong("pool 0 0;security 1 1;lender 1 1 1;holding 0 0;", 1, 46);
        wrong("pool 0 0;security 1 1;lender 1 1 1;holding 0 0 1 1;", 1, 49);
        String[] ends = {"pool", "pool 0", "pool 0 0", "pool 0 0;borrower", "pool 0 0;borrower 1", "pool 0 0;lender 1 1"};
        for (String text : ends) {
            wrong(text, 1, text.length());
            wrong(text + "  ", 1, text.length() + 2);
        }
        right("pool 0 0;borrower 1;", 2);
    }

    @Says(at = "Section 5", words = "2: a number that is out of its range, or that has more than seven digits (for the numbers L and S of a"
        + " holding only the latter)")
    static void section5_code2() {
        right("pool 0000030 0000100;", 1);
        wrong("pool 00000030 0;", 2, 5);
        wrong("pool 0 00000000;", 2, 7);
        right("pool 0 0;security 0009999 0009999;borrower 9999999;", 3);
        wrong("pool 0 0;security 00000001 1;", 2, 18);
        wrong("pool 0 0;borrower 00000000;", 2, 18);
        wrong("pool 0 0;borrower 10000000;", 2, 18);
        // Numbers that would wrap around to one in its range, were they kept in an int or a long.
        wrong("pool 4294967296 0;", 2, 5);
        wrong("pool 18446744073709551616 0;", 2, 5);
        String start = "pool 0 0;security 1 1;lender 1 1 1;holding ";
        right(start + "0000000 0000000 0099999;", 4);
        wrong(start + "00000000 0 0;", 2, 43);
        wrong(start + "0 00000000 0;", 2, 45);
        wrong(start + "0 0 100000;", 2, 47);
        wrong(start + "0 0 00000000;", 2, 47);
        wrong(start + "9999999 0 0;", 4, 43);
        wrong(start + "0 9999999 0;", 4, 45);
    }

    @Says(at = "Section 5", words = "3: a keyword other than \"pool\" as the first token, or a second keyword \"pool\"")
    static void section5_code3() {
        for (String keyword : new String[] {"security", "lender", "borrower", "holding"}) {
            wrong(keyword, 3, 0);
            wrong("\n " + keyword + " 1 1 1;", 3, 2);
        }
        wrong("pool 0 0;pool", 3, 9);
        wrong("pool 0 0;borrower 1; pool 0 0;", 3, 21);
    }

    @Says(at = "Section 5", words = "4: the number of a lender or security that was not added before")
    static void section5_code4() {
        String start = "pool 0 0;security 1 1;security 1 1;lender 1 1 1;holding ";
        right(start + "0 1 5;", 5);
        wrong(start + "1 0 5;", 4, 56);
        wrong(start + "0 2 5;", 4, 58);
        wrong(start + "1 2 5;", 4, 56);
        wrong("pool 0 0;holding 0 0 0;", 4, 17);
        String most = "pool 0 0;" + "security 1 1;".repeat(4) + "lender 1 1 1;".repeat(6) + "holding ";
        right(most + "5 3 5;", 12);
        wrong(most + "6 3 5;", 4, 147);
        wrong(most + "5 4 5;", 4, 149);
    }

    @Says(at = "Section 5", words = "5: the keyword of a fifth security, a seventh lender or a fifth borrower")
    static void section5_code5() {
        String securities = "pool 0 0;" + "security 1 1;".repeat(4);
        String lenders = "pool 0 0;" + "lender 1 1 1;".repeat(6);
        String borrowers = "pool 0 0;" + "borrower 1;".repeat(4);
        right(securities, 5);
        right(lenders, 7);
        right(borrowers, 5);
        wrong(securities + "security", 5, 61);
        wrong(lenders + " lender x", 5, 88);
        wrong(borrowers + "\nborrower 1;", 5, 54);
        right(securities + lenders.substring(9) + borrowers.substring(9), 15);
        wrong(securities + lenders.substring(9) + borrowers.substring(9) + "security 1 1;", 5, 183);
    }

    // ---- section 5, order texts, and promise 18

    /** An order does what the method does of which the document says that it is as it. */
    private static void order(String text, Use call) {
        LendingPool x = full();
        due(x.returnShares(10, 50), 0);
        due(Check.orders(x, text), 1);
        LendingPool y = full();
        y.returnShares(10, 50);
        call.on(y);
        due(Look.state(x), Look.state(y));
    }

    @Says(at = "Section 5", words = "executes each order when its semicolon has been read: \"borrow B S Q R\" (as borrow), \"return L Q\" (as"
        + " returnShares), \"recall L S Q\" (as recall), \"pass N\" (as passDays), \"price S P\" (as setPrice) and \"dividend S A\" (as"
        + " payDividend)")
    static void section5_ordersAreAsTheMethods() {
        order("borrow 3 0 50 7;", x -> x.borrow(3, 0, 50, 7));
        order("borrow 2 0 100 9999;", x -> x.borrow(2, 0, 100, 9999));
        order("return 3 2;", x -> x.returnShares(3, 2));
        order("return 11 70;", x -> x.returnShares(11, 70));
        order("recall 5 3 8;", x -> x.recall(5, 3, 8));
        order("recall 1 0 99;", x -> x.recall(1, 0, 99));
        order("pass 400;", x -> x.passDays(400));
        order("price 3 2;", x -> x.setPrice(3, 2));
        order("price 0 9999;", x -> x.setPrice(0, 9999));
        order("dividend 3 2;", x -> x.payDividend(3, 2));
        order("dividend 0 9999;", x -> x.payDividend(0, 9999));
    }

    @Says(at = "Section 5", words = "The text is wrong at the first byte of a token that cannot stand where it stands (also a number of more"
        + " than seven digits, an unknown word, and a byte that begins no token)")
    static void section5_ordersWithWrongTokens() {
        rightOrders("pass 0000001;", 1);
        wrongOrders("pass 00000001;", 5);
        wrongOrders("price 0 00000001;", 8);
        wrongOrders("price 00000000 1;", 6);
        wrongOrders("pool 0 0;", 0);
        wrongOrders("pass 1;passs 1;", 7);
        wrongOrders("pass 1;\u00ff", 7);
        wrongOrders("pass\t1;", 4);
        wrongOrders(";", 0);
        wrongOrders("1;", 0);
        wrongOrders("pass pass;", 5);
        wrongOrders("pass;", 4);
        wrongOrders("pass 1 1;", 7);
        wrongOrders("borrow 0 0 1;", 12);
        wrongOrders("borrow 0 0 1 1 1;", 15);
        wrongOrders("return 0;", 8);
        wrongOrders("return 0 1 1;", 11);
        wrongOrders("recall 0 0;", 10);
        wrongOrders("recall 0 0 1 1;", 13);
        wrongOrders("price 0;", 7);
        wrongOrders("price 0 1 1;", 10);
        wrongOrders("dividend 0;", 10);
        wrongOrders("dividend 0 1 1;", 13);
    }

    @Says(at = "Section 5", words = "at its length if it ends too early")
    static void section5_ordersThatEndTooEarly() {
        rightOrders("pass 1;", 1);
        for (String text : new String[] {"pass", "pass 1", "pass 1;return 0", "pass 1  \n", "pass 1;recall 0 0 1"}) {
            wrongOrders(text, text.length());
        }
        wrongOrders("pass 1;" + " ".repeat(589) + "pass", 600);
    }

    @Says(at = "Section 5", words = "at the first byte of the word of an order for which the corresponding method would throw an exception")
    static void section5_ordersThatAreRefused() {
        String[] allowed = {"borrow 0 0 1 0", "borrow 1 0 50 9999", "return 0 1", "return 0 120", "return 1 30", "recall 0 0 1",
            "recall 0 0 40", "recall 2 0 50", "pass 1", "pass 400", "price 0 1", "price 1 9999", "dividend 0 1", "dividend 1 9999"};
        for (String order : allowed) {
            rightOrders(order + ";", 1);
        }
        String[] refused = {"borrow 0 0 0 0", "borrow 0 0 51 0", "borrow 0 0 100000 0", "borrow 0 0 1 10000", "borrow 2 0 1 0",
            "borrow 0 2 1 0", "borrow 0 1 1 0", "return 0 0", "return 0 121", "return 2 1", "return 1 31", "recall 0 0 0",
            "recall 0 0 41", "recall 2 0 51", "recall 0 0 100000", "recall 3 0 1", "recall 0 2 1", "pass 0", "pass 401", "price 0 0",
            "price 0 10000", "price 2 1", "dividend 0 0", "dividend 0 10000", "dividend 2 1", "pass 9999999"};
        for (String order : refused) {
            wrongOrders(order + ";", 0);
            wrongOrders("price 1 7; " + order + ";", 11);
        }
    }

    @Says(at = "Section 5", words = "The first of these that is met while reading counts.")
    static void section5_theFirstThatIsMet() {
        // An order is executed, and refused, when its semicolon has been read: what is wrong before it comes first.
        wrongOrders("pass 0 x", 7);
        wrongOrders("pass 0", 6);
        wrongOrders("pass 0;x", 0);
        wrongOrders("pass 1;pass 0;x", 7);
        // What an order makes is there for the next one: loan 2 of 50 shares is made, returned, and then no more.
        rightOrders("borrow 0 0 50 0;return 2 50;", 2);
        wrongOrders("borrow 0 0 50 0;return 2 51;", 16);
        wrongOrders("borrow 0 0 50 0;return 2 50;return 2 1;", 28);
    }

    @Says(at = "Promise 18", words = "The buffer is empty afterwards.")
    static void promise18_bufferIsEmpty() {
        for (String text : new String[] {"", "pass 1;", "pass 0;", "x", "pass 1;" + " ".repeat(593), "x".repeat(600)}) {
            LendingPool x = new LendingPool();
            Check.write(x, text);
            x.runOrders();
            due(outcome(x, y -> y.truncateText(1)), IllegalArgumentException.class);
            due(x.runOrders(), 0);
            due(append(x), 20);
        }
    }

    @Says(at = "Promise 18", words = "A text without tokens has no orders and is a change, too.")
    static void promise18_withoutTokensAChangeToo() {
        for (String text : new String[] {"", " ", "\n", " \n".repeat(300)}) {
            LendingPool x = new LendingPool();
            due(Check.orders(x, text) + " " + x.undoDepth(), "0 1");
            due(x.undo(), 0);
            LendingPool y = rightOrders(text, 0);
            due(Look.state(y), Look.state(busy()));
            due(y.undo(), 4);
        }
    }

    @Says(at = "Promise 18", words = "Returns the number of orders; -1 - p if the text is wrong at position p, and then nothing changes but"
        + " the buffer.")
    static void promise18_ordersOrPosition() {
        due(rightOrders("pass1;".repeat(100), 100).count(5), 101);
        due(rightOrders("pass 400;".repeat(66), 66).count(5), 1 + 66 * 400);
        wrongOrders("x", 0);
        wrongOrders("pass1;".repeat(99) + "pass 1", 600);
        wrongOrders("pass1;".repeat(99) + "pass1:", 599);
        wrongOrders("borrow 0 0 5 5;return 0 1;recall 1 0 5;pass 9;price 0 1;dividend 0 5;x", 69);
        LendingPool x = full();
        due(Check.orders(x, "return 0 50;price 3 1;dividend 3 1;pass 400;borrow 0 0 50 0;recall 5 3 71;"), -1 - 60);
        due(Look.state(x), Look.state(full()));
    }
}
