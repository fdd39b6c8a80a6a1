import java.util.Arrays;
import java.util.NoSuchElementException;

/** A securities lending pool; what each method promises stands in the document of the project. */
public final class LendingPool {
    public static final int NONE = -1;

    private static final int MAX_SECURITIES = 4;
    private static final int MAX_LENDERS = 6;
    private static final int MAX_BORROWERS = 4;
    private static final int MAX_OPEN = 12;
    private static final int MAX_CHANGES = 10;
    private static final int MAX_TEXT = 600;
    private static final int MAX_DIGITS = 7;
    private static final int MAX_SHARES = 99999;
    private static final int MAX_PRICE = 9999;
    private static final int MAX_RATE = 9999;
    private static final int MAX_CREDIT = 9999999;
    private static final int MAX_AMOUNT = 9999;
    private static final int MAX_DAYS = 400;
    private static final int MAX_NOTICE = 30;
    private static final int PERCENT = 100;
    private static final long FEE_DIVISOR = 3600000L;
    // More than all shares of a security together.
    private static final int BEYOND_ALL = 1000000;

    // The numbers of a pool stand in the order in which count() asks for them.
    private static final int SECURITIES = 0;
    private static final int LENDERS = 1;
    private static final int BORROWERS = 2;
    private static final int OPEN = 3;
    private static final int MADE = 4;
    private static final int DAY = 5;
    private static final int POLICY = 6;
    private static final int NOTICE = 7;
    private static final int PENALTY = 8;
    private static final int NUMBERS = 9;

    // The sums of a pool stand in the order in which total() asks for them.
    private static final int FEES = 0;
    private static final int BOUGHT_IN = 1;
    private static final int REPLACED = 2;
    private static final int SUMS = 3;

    private static final int FIRST_BORROWER_ACCOUNT = MAX_LENDERS;
    private static final int AGENT_ACCOUNT = MAX_LENDERS + MAX_BORROWERS;
    private static final int TAX_ACCOUNT = AGENT_ACCOUNT + 1;
    private static final int MARKET_ACCOUNT = AGENT_ACCOUNT + 2;
    private static final int ACCOUNTS = AGENT_ACCOUNT + 3;

    private static final int BY_USE = 0;
    private static final int BY_PART = 1;
    private static final int BY_TURN = 2;

    private static final int FINE = 0;
    private static final int NO_INDEX = 1;
    private static final int BAD_ARGUMENT = 2;
    private static final int BAD_STATE = 3;
    private static final int NO_ELEMENT = 4;

    private final Text text = new Text();
    private final PoolReader poolReader = new PoolReader();
    private final OrderReader orderReader = new OrderReader();
    private final Desk desk = new Desk();
    private final LoanChoice choice = new LoanChoice();
    private final History history = new History();
    private final Report report = new Report();
    private final Pool pool = new Pool();
    private final Pool draft = new Pool();

    public LendingPool() {
    }

    // ---- pool text

    public int appendText(int a, int b, int c, int d, int e) throws IllegalStateException {
        if (!text.hasRoom(20)) {
            throw new IllegalStateException("the text would be too long");
        }
        text.addFour(a);
        text.addFour(b);
        text.addFour(c);
        text.addFour(d);
        text.addFour(e);
        return text.length;
    }

    public int truncateText(int length) throws IllegalArgumentException {
        if (outside(length, 0, text.length)) {
            throw new IllegalArgumentException("no such length");
        }
        text.length = length;
        return length;
    }

    public int parsePool() {
        int statements = poolReader.readAll(text, draft);
        text.length = 0;
        if (statements != NONE) {
            pool.copyFrom(draft);
            history.forget();
        }
        return statements;
    }

    public int errorCode() {
        return poolReader.code;
    }

    public int errorPosition() {
        return poolReader.position;
    }

    // ---- changes

    public int borrow(int borrower, int security, int quantity, int rebate)
            throws IndexOutOfBoundsException, IllegalArgumentException, IllegalStateException {
        refuse(desk.lendFault(pool, borrower, security, quantity, rebate));
        history.keep(pool);
        return desk.lend(pool, borrower, security, quantity, rebate);
    }

    public int returnShares(int loan, int quantity) throws IndexOutOfBoundsException, IllegalArgumentException {
        refuse(desk.giveBackFault(pool, loan, quantity));
        history.keep(pool);
        return desk.giveBack(pool, loan, quantity);
    }

    public int recall(int lender, int security, int quantity)
            throws IndexOutOfBoundsException, IllegalArgumentException, IllegalStateException {
        refuse(desk.callInFault(pool, lender, security, quantity));
        history.keep(pool);
        return desk.callIn(pool, lender, security, quantity);
    }

    public int passDays(int days) throws IllegalArgumentException {
        refuse(desk.goOnFault(days));
        history.keep(pool);
        return desk.goOn(pool, days);
    }

    public long payDividend(int security, int amount) throws IndexOutOfBoundsException, IllegalArgumentException {
        refuse(desk.dividendFault(pool, security, amount));
        history.keep(pool);
        return desk.dividend(pool, security, amount);
    }

    public int buyShares(int lender, int security, int quantity)
            throws IndexOutOfBoundsException, IllegalArgumentException, IllegalStateException {
        refuse(desk.quantityFault(pool, lender, security, quantity));
        if (pool.heldBy(lender, security) + quantity > MAX_SHARES) {
            throw new IllegalStateException("the holding would be too great");
        }
        history.keep(pool);
        return desk.trade(pool, lender, security, quantity);
    }

    public int sellShares(int lender, int security, int quantity)
            throws IndexOutOfBoundsException, IllegalArgumentException, IllegalStateException {
        refuse(desk.quantityFault(pool, lender, security, quantity));
        if (pool.heldBy(lender, security) - pool.lentBy(lender, security) < quantity) {
            throw new IllegalStateException("too few shares that are not on loan");
        }
        history.keep(pool);
        return desk.trade(pool, lender, security, -quantity);
    }

    public int setPrice(int security, int price) throws IndexOutOfBoundsException, IllegalArgumentException {
        refuse(desk.priceFault(pool, security, price));
        history.keep(pool);
        int previous = pool.price[security];
        pool.price[security] = price;
        return previous;
    }

    public int setRate(int security, int rate) throws IndexOutOfBoundsException, IllegalArgumentException {
        needSecurity(security);
        needRange(rate, 0, MAX_RATE);
        history.keep(pool);
        int previous = pool.rate[security];
        pool.rate[security] = rate;
        return previous;
    }

    public int setLimit(int lender, int limit) throws IndexOutOfBoundsException, IllegalArgumentException {
        needLender(lender);
        needRange(limit, 0, PERCENT);
        history.keep(pool);
        int previous = pool.limit[lender];
        pool.limit[lender] = limit;
        return previous;
    }

    public int setPolicy(int policy) throws IllegalArgumentException {
        needRange(policy, BY_USE, BY_TURN);
        history.keep(pool);
        int previous = pool.numbers[POLICY];
        pool.numbers[POLICY] = policy;
        return previous;
    }

    public int runOrders() {
        draft.copyFrom(pool);
        int answer = orderReader.runAll(text, desk, draft);
        text.length = 0;
        if (answer >= 0) {
            history.keep(pool);
            pool.copyFrom(draft);
        }
        return answer;
    }

    // ---- the pool

    public int count(int what) throws IllegalArgumentException {
        needRange(what, 0, NUMBERS - 1);
        return pool.numbers[what];
    }

    public int security(int security, int what) throws IndexOutOfBoundsException, IllegalArgumentException {
        needSecurity(security);
        needRange(what, 0, 1);
        return what == 0 ? pool.price[security] : pool.rate[security];
    }

    public int lender(int lender, int what) throws IndexOutOfBoundsException, IllegalArgumentException {
        needLender(lender);
        needRange(what, 0, 2);
        if (what == 0) {
            return pool.split[lender];
        }
        return what == 1 ? pool.limit[lender] : pool.tax[lender];
    }

    public int credit(int borrower) throws IndexOutOfBoundsException {
        needBorrower(borrower);
        return pool.credit[borrower];
    }

    public int holding(int lender, int security) throws IndexOutOfBoundsException {
        needLenderAndSecurity(lender, security);
        return pool.heldBy(lender, security);
    }

    public int onLoan(int lender, int security) throws IndexOutOfBoundsException {
        needLenderAndSecurity(lender, security);
        return pool.lentBy(lender, security);
    }

    public int available(int lender, int security) throws IndexOutOfBoundsException {
        needLenderAndSecurity(lender, security);
        return pool.freeOf(lender, security);
    }

    public int pooled(int security) throws IndexOutOfBoundsException {
        needSecurity(security);
        return pool.freeOfAll(security);
    }

    public double utilization(int security) throws IndexOutOfBoundsException, ArithmeticException {
        needSecurity(security);
        int lent = 0;
        int held = 0;
        for (int l = 0; l < pool.numbers[LENDERS]; l++) {
            lent += pool.lentBy(l, security);
            held += pool.heldBy(l, security);
        }
        if (held == 0) {
            throw new ArithmeticException("all holdings are 0");
        }
        return (double) lent / (double) held;
    }

    public long exposure(int borrower) throws IndexOutOfBoundsException {
        needBorrower(borrower);
        return pool.owedBy(borrower, NONE);
    }

    public long account(int kind, int number) throws IllegalArgumentException {
        return pool.balances[neededAccount(kind, number)];
    }

    // ---- loans

    public int openLoan(int index) throws IndexOutOfBoundsException {
        needIndex(index, pool.numbers[OPEN]);
        return pool.loans[index].number;
    }

    public int loan(int loan, int what) throws IndexOutOfBoundsException, IllegalArgumentException {
        Loan found = neededLoan(loan);
        needRange(what, 0, 7);
        switch (what) {
            case 0:
                return found.borrower;
            case 1:
                return found.security;
            case 2:
                return found.quantity();
            case 3:
                return found.rebate;
            case 4:
                return found.madeOn;
            case 5:
                return found.recalledShares();
            case 6:
                return found.leastDue();
            default:
                return found.sliceCount();
        }
    }

    public int slice(int loan, int lender, int what) throws IndexOutOfBoundsException, IllegalArgumentException {
        Loan found = neededLoan(loan);
        needLender(lender);
        needRange(what, 0, 2);
        if (what == 0) {
            return found.shares[lender];
        }
        return what == 1 ? found.recalled[lender] : found.due[lender];
    }

    public long dailyFee(int loan) throws IndexOutOfBoundsException {
        Loan found = neededLoan(loan);
        long sum = 0;
        for (int l = 0; l < MAX_LENDERS; l++) {
            sum += pool.feeOf(found, l);
        }
        return sum;
    }

    public int recallable(int lender, int security) throws IndexOutOfBoundsException {
        needLenderAndSecurity(lender, security);
        return pool.unrecalledOf(lender, security);
    }

    public int recallOrder(int lender, int security, int index) throws IndexOutOfBoundsException {
        needLenderAndSecurity(lender, security);
        needIndex(index, desk.putInCallOrder(pool, lender, security));
        return pool.loans[desk.callOrder[index]].number;
    }

    public int returnOrder(int loan, int index) throws IndexOutOfBoundsException {
        Loan found = neededLoan(loan);
        needIndex(index, 2 * MAX_LENDERS);
        int lender = desk.returner(found, index);
        if (lender == NONE) {
            throw new IndexOutOfBoundsException("no such index");
        }
        return lender;
    }

    // ---- in thought

    public int quote(int security, int quantity, int lender)
            throws IndexOutOfBoundsException, IllegalArgumentException, IllegalStateException {
        needLenderAndSecurity(lender, security);
        needAllocation(security, quantity);
        desk.allocation.share(pool.numbers[POLICY], quantity);
        return desk.allocation.gives[lender];
    }

    public int borrowable(int borrower, int security) throws IndexOutOfBoundsException {
        needBorrower(borrower);
        needSecurity(security);
        long room = pool.credit[borrower] - pool.owedBy(borrower, NONE);
        int price = pool.price[security];
        if (pool.numbers[OPEN] >= MAX_OPEN || room <= 0 || price <= 0) {
            return 0;
        }
        int most = Math.min(MAX_SHARES, pool.freeOfAll(security));
        return (int) Math.min(most, room / price);
    }

    public int wouldReplace(int lender, int security, int quantity)
            throws IndexOutOfBoundsException, IllegalArgumentException, IllegalStateException {
        refuse(desk.callInFault(pool, lender, security, quantity));
        draft.copyFrom(pool);
        return desk.callIn(draft, lender, security, quantity);
    }

    public int fewestLoans(int lender, int security, int quantity)
            throws IndexOutOfBoundsException, IllegalArgumentException, NoSuchElementException {
        needChoice(lender, security, quantity);
        return choice.fewest(quantity);
    }

    public int tightestSum(int lender, int security, int quantity)
            throws IndexOutOfBoundsException, IllegalArgumentException, NoSuchElementException {
        needChoice(lender, security, quantity);
        choice.findTightest(quantity);
        return choice.bestSum;
    }

    public int tightestLoans(int lender, int security, int quantity)
            throws IndexOutOfBoundsException, IllegalArgumentException, NoSuchElementException {
        needChoice(lender, security, quantity);
        choice.findTightest(quantity);
        return choice.bestSet;
    }

    public long accountAfter(int days, int kind, int number) throws IllegalArgumentException {
        needRange(days, 0, MAX_DAYS);
        int place = neededAccount(kind, number);
        draft.copyFrom(pool);
        desk.goOn(draft, days);
        return draft.balances[place];
    }

    public int boughtInAfter(int days) throws IllegalArgumentException {
        needRange(days, 1, MAX_DAYS);
        draft.copyFrom(pool);
        return desk.goOn(draft, days);
    }

    public int firstBuyIn() throws NoSuchElementException {
        int first = NONE;
        for (int k = 0; k < pool.numbers[OPEN]; k++) {
            first = earlier(first, pool.loans[k].leastDue());
        }
        if (first == NONE) {
            throw new NoSuchElementException("no shares are recalled");
        }
        return first + 1 - pool.numbers[DAY];
    }

    public int breakingPrice(int borrower, int security) throws IndexOutOfBoundsException, NoSuchElementException {
        needBorrower(borrower);
        needSecurity(security);
        int quantity = pool.borrowedBy(borrower, security);
        long room = pool.credit[borrower] - pool.owedBy(borrower, security);
        if (room < 0) {
            return 1;
        }
        if (quantity <= 0 || room / quantity >= MAX_PRICE) {
            throw new NoSuchElementException("no such price");
        }
        return (int) (room / quantity) + 1;
    }

    public int bestPolicy(int security, int quantity)
            throws IndexOutOfBoundsException, IllegalArgumentException, IllegalStateException {
        needSecurity(security);
        needAllocation(security, quantity);
        int best = NONE;
        int least = BEYOND_ALL;
        for (int policy = BY_USE; policy <= BY_TURN; policy++) {
            desk.allocation.share(policy, quantity);
            int spread = desk.allocation.spread();
            if (spread < least) {
                least = spread;
                best = policy;
            }
        }
        return best;
    }

    // ---- rankings, totals, report

    public int rankedLender(int security, int place) throws IndexOutOfBoundsException {
        needSecurity(security);
        needIndex(place, pool.numbers[LENDERS]);
        desk.allocation.measure(pool, security, NONE);
        desk.allocation.orderByUse();
        return desk.allocation.order[place];
    }

    public int richestLender() throws NoSuchElementException {
        if (pool.numbers[LENDERS] == 0) {
            throw new NoSuchElementException("there are no lenders");
        }
        int richest = 0;
        for (int l = 1; l < pool.numbers[LENDERS]; l++) {
            if (pool.balances[l] > pool.balances[richest]) {
                richest = l;
            }
        }
        return richest;
    }

    public int lastServed(int security) throws IndexOutOfBoundsException {
        needSecurity(security);
        return pool.served[security];
    }

    public long total(int what) throws IllegalArgumentException {
        needRange(what, 0, 5);
        if (what < SUMS) {
            return pool.sums[what];
        }
        if (what == 3) {
            return pool.recalledNow();
        }
        return what == 4 ? pool.valueOfLoans() : pool.lenderBalances();
    }

    public int writeReport() {
        report.write(pool);
        return report.length;
    }

    public int reportByte(int index) throws IndexOutOfBoundsException {
        needIndex(index, report.length);
        return report.bytes[index];
    }

    // ---- undo

    public int undo() throws IllegalStateException {
        if (history.depth == 0) {
            throw new IllegalStateException("there is no change to undo");
        }
        history.restore(pool);
        return history.depth;
    }

    public int undoDepth() {
        return history.depth;
    }

    // ---- what calls need

    private static boolean outside(int value, int least, int greatest) {
        return value < least || value > greatest;
    }

    private static void refuse(int fault) {
        switch (fault) {
            case NO_INDEX:
                throw new IndexOutOfBoundsException("no such number");
            case BAD_ARGUMENT:
                throw new IllegalArgumentException("an argument is out of its range");
            case BAD_STATE:
                throw new IllegalStateException("the pool does not allow this now");
            case NO_ELEMENT:
                throw new NoSuchElementException("there is none");
            default:
                break;
        }
    }

    private static void needIndex(int index, int size) {
        refuse(outside(index, 0, size - 1) ? NO_INDEX : FINE);
    }

    private static void needRange(int value, int least, int greatest) {
        refuse(outside(value, least, greatest) ? BAD_ARGUMENT : FINE);
    }

    private void needSecurity(int security) {
        needIndex(security, pool.numbers[SECURITIES]);
    }

    private void needLender(int lender) {
        needIndex(lender, pool.numbers[LENDERS]);
    }

    private void needBorrower(int borrower) {
        needIndex(borrower, pool.numbers[BORROWERS]);
    }

    private void needLenderAndSecurity(int lender, int security) {
        needLender(lender);
        needSecurity(security);
    }

    private void needAllocation(int security, int quantity) {
        needRange(quantity, 1, MAX_SHARES);
        desk.allocation.measure(pool, security, NONE);
        refuse(desk.allocation.freeSum < quantity ? BAD_STATE : FINE);
    }

    private void needChoice(int lender, int security, int quantity) {
        refuse(desk.quantityFault(pool, lender, security, quantity));
        refuse(pool.unrecalledOf(lender, security) < quantity ? NO_ELEMENT : FINE);
        choice.look(pool, lender, security);
    }

    private Loan neededLoan(int number) {
        int place = pool.placeOf(number);
        needIndex(place, pool.numbers[OPEN]);
        return pool.loans[place];
    }

    private int neededAccount(int kind, int number) {
        int place = pool.accountPlace(kind, number);
        needRange(place, 0, ACCOUNTS - 1);
        return place;
    }

    private static int earlier(int due, int otherDue) {
        if (due == NONE || otherDue == NONE) {
            return Math.max(due, otherDue);
        }
        return Math.min(due, otherDue);
    }

    /** An open loan with a slice, possibly empty, of each lender. */
    private static final class Loan {
        int number;
        int borrower;
        int security;
        int rebate;
        int madeOn;
        final int[] shares = new int[MAX_LENDERS];
        final int[] recalled = new int[MAX_LENDERS];
        final int[] due = new int[MAX_LENDERS];

        void begin(int newNumber, int newBorrower, int newSecurity, int newRebate, int day) {
            number = newNumber;
            borrower = newBorrower;
            security = newSecurity;
            rebate = newRebate;
            madeOn = day;
            Arrays.fill(shares, 0);
            Arrays.fill(recalled, 0);
            Arrays.fill(due, NONE);
        }

        void copyFrom(Loan other) {
            number = other.number;
            borrower = other.borrower;
            security = other.security;
            rebate = other.rebate;
            madeOn = other.madeOn;
            System.arraycopy(other.shares, 0, shares, 0, MAX_LENDERS);
            System.arraycopy(other.recalled, 0, recalled, 0, MAX_LENDERS);
            System.arraycopy(other.due, 0, due, 0, MAX_LENDERS);
        }

        int quantity() {
            int sum = 0;
            for (int l = 0; l < MAX_LENDERS; l++) {
                sum += shares[l];
            }
            return sum;
        }

        int recalledShares() {
            int sum = 0;
            for (int l = 0; l < MAX_LENDERS; l++) {
                sum += recalled[l];
            }
            return sum;
        }

        int sliceCount() {
            int slices = 0;
            for (int l = 0; l < MAX_LENDERS; l++) {
                if (shares[l] > 0) {
                    slices++;
                }
            }
            return slices;
        }

        int leastDue() {
            int first = earliestRecalled();
            return first == NONE ? NONE : due[first];
        }

        private int earliestRecalled() {
            int first = NONE;
            for (int l = 0; l < MAX_LENDERS; l++) {
                if (recalled[l] > 0 && (first == NONE || due[l] < due[first])) {
                    first = l;
                }
            }
            return first;
        }

        private int greatestSlice() {
            int greatest = NONE;
            for (int l = 0; l < MAX_LENDERS; l++) {
                if (shares[l] > 0 && (greatest == NONE || shares[l] > shares[greatest])) {
                    greatest = l;
                }
            }
            return greatest;
        }

        /** The lender whose slice is next when shares are returned, or NONE. */
        int nextReturner() {
            int first = earliestRecalled();
            return first == NONE ? greatestSlice() : first;
        }

        /** How many shares nextReturner() returns before another slice is next. */
        int returnsAtOnce(int lender) {
            return recalled[lender] > 0 ? recalled[lender] : shares[lender];
        }

        void handBack(int lender, int part) {
            shares[lender] -= part;
            recalled[lender] -= Math.min(part, recalled[lender]);
            if (recalled[lender] == 0) {
                due[lender] = NONE;
            }
        }
    }

    /** The whole state that undo restores. */
    private static final class Pool {
        final int[] numbers = new int[NUMBERS];
        final int[] price = new int[MAX_SECURITIES];
        final int[] rate = new int[MAX_SECURITIES];
        final int[] served = new int[MAX_SECURITIES];
        final int[] split = new int[MAX_LENDERS];
        final int[] limit = new int[MAX_LENDERS];
        final int[] tax = new int[MAX_LENDERS];
        final int[] credit = new int[MAX_BORROWERS];
        final int[] held = new int[MAX_LENDERS * MAX_SECURITIES];
        final long[] balances = new long[ACCOUNTS];
        final long[] sums = new long[SUMS];
        final Loan[] loans = new Loan[MAX_OPEN];

        Pool() {
            for (int k = 0; k < MAX_OPEN; k++) {
                loans[k] = new Loan();
            }
        }

        void empty() {
            Arrays.fill(numbers, 0);
            Arrays.fill(held, 0);
            Arrays.fill(balances, 0L);
            Arrays.fill(sums, 0L);
            Arrays.fill(served, NONE);
        }

        void copyFrom(Pool other) {
            System.arraycopy(other.numbers, 0, numbers, 0, NUMBERS);
            System.arraycopy(other.price, 0, price, 0, MAX_SECURITIES);
            System.arraycopy(other.rate, 0, rate, 0, MAX_SECURITIES);
            System.arraycopy(other.served, 0, served, 0, MAX_SECURITIES);
            System.arraycopy(other.split, 0, split, 0, MAX_LENDERS);
            System.arraycopy(other.limit, 0, limit, 0, MAX_LENDERS);
            System.arraycopy(other.tax, 0, tax, 0, MAX_LENDERS);
            System.arraycopy(other.credit, 0, credit, 0, MAX_BORROWERS);
            System.arraycopy(other.held, 0, held, 0, MAX_LENDERS * MAX_SECURITIES);
            System.arraycopy(other.balances, 0, balances, 0, ACCOUNTS);
            System.arraycopy(other.sums, 0, sums, 0, SUMS);
            for (int k = 0; k < numbers[OPEN]; k++) {
                loans[k].copyFrom(other.loans[k]);
            }
        }

        boolean hasSecurity(int security) {
            return !outside(security, 0, numbers[SECURITIES] - 1);
        }

        boolean hasLender(int lender) {
            return !outside(lender, 0, numbers[LENDERS] - 1);
        }

        boolean hasBorrower(int borrower) {
            return !outside(borrower, 0, numbers[BORROWERS] - 1);
        }

        int heldBy(int lender, int security) {
            return held[lender * MAX_SECURITIES + security];
        }

        int lentBy(int lender, int security) {
            int sum = 0;
            for (int k = 0; k < numbers[OPEN]; k++) {
                if (loans[k].security == security) {
                    sum += loans[k].shares[lender];
                }
            }
            return sum;
        }

        int unrecalledOf(int lender, int security) {
            int sum = 0;
            for (int k = 0; k < numbers[OPEN]; k++) {
                sum += unrecalledIn(k, lender, security);
            }
            return sum;
        }

        int unrecalledIn(int place, int lender, int security) {
            Loan loan = loans[place];
            return loan.security == security ? loan.shares[lender] - loan.recalled[lender] : 0;
        }

        int freeOf(int lender, int security) {
            int lendable = heldBy(lender, security) * limit[lender] / PERCENT;
            return Math.max(0, lendable - lentBy(lender, security));
        }

        int freeOfAll(int security) {
            int sum = 0;
            for (int l = 0; l < numbers[LENDERS]; l++) {
                sum += freeOf(l, security);
            }
            return sum;
        }

        int borrowedBy(int borrower, int security) {
            int sum = 0;
            for (int k = 0; k < numbers[OPEN]; k++) {
                if (loans[k].borrower == borrower && loans[k].security == security) {
                    sum += loans[k].quantity();
                }
            }
            return sum;
        }

        long owedBy(int borrower, int exceptSecurity) {
            long sum = 0;
            for (int k = 0; k < numbers[OPEN]; k++) {
                if (loans[k].borrower == borrower && loans[k].security != exceptSecurity) {
                    sum += valueOf(loans[k]);
                }
            }
            return sum;
        }

        long valueOf(Loan loan) {
            return (long) loan.quantity() * price[loan.security];
        }

        long valueOfLoans() {
            long sum = 0;
            for (int k = 0; k < numbers[OPEN]; k++) {
                sum += valueOf(loans[k]);
            }
            return sum;
        }

        long recalledNow() {
            long sum = 0;
            for (int k = 0; k < numbers[OPEN]; k++) {
                sum += loans[k].recalledShares();
            }
            return sum;
        }

        long lenderBalances() {
            long sum = 0;
            for (int l = 0; l < numbers[LENDERS]; l++) {
                sum += balances[l];
            }
            return sum;
        }

        long feeOf(Loan loan, int lender) {
            int security = loan.security;
            return (long) loan.shares[lender] * price[security] * (rate[security] - loan.rebate) / FEE_DIVISOR;
        }

        int accountPlace(int kind, int number) {
            switch (kind) {
                case 0:
                    return hasLender(number) ? number : NONE;
                case 1:
                    return hasBorrower(number) ? FIRST_BORROWER_ACCOUNT + number : NONE;
                case 2:
                    return number == 0 ? AGENT_ACCOUNT : NONE;
                case 3:
                    return number == 0 ? TAX_ACCOUNT : NONE;
                case 4:
                    return number == 0 ? MARKET_ACCOUNT : NONE;
                default:
                    return NONE;
            }
        }

        int placeOf(int loanNumber) {
            for (int k = 0; k < numbers[OPEN]; k++) {
                if (loans[k].number == loanNumber) {
                    return k;
                }
            }
            return NONE;
        }

        Loan open(int borrower, int security, int rebate) {
            Loan loan = loans[numbers[OPEN]];
            loan.begin(numbers[MADE], borrower, security, rebate, numbers[DAY]);
            numbers[OPEN]++;
            numbers[MADE]++;
            return loan;
        }

        /** Closed loans change places with later open ones, so that each row is used again. */
        void dropClosed() {
            int kept = 0;
            for (int k = 0; k < numbers[OPEN]; k++) {
                Loan loan = loans[k];
                if (loan.quantity() > 0) {
                    loans[k] = loans[kept];
                    loans[kept] = loan;
                    kept++;
                }
            }
            numbers[OPEN] = kept;
        }
    }

    /** How a number of shares of a security is divided among the lenders. */
    private static final class Allocation {
        final int[] gives = new int[MAX_LENDERS];
        final int[] order = new int[MAX_LENDERS];
        int freeSum;
        private final int[] free = new int[MAX_LENDERS];
        private final int[] lent = new int[MAX_LENDERS];
        private final int[] whole = new int[MAX_LENDERS];
        private final long[] rest = new long[MAX_LENDERS];
        private int lenders;
        private int servedLast;
        private int lastInTurn;

        /** Looks at what the lenders have, all but one (NONE: all); a holding of 0 counts as 1, of which 0 is lent. */
        void measure(Pool pool, int security, int except) {
            lenders = pool.numbers[LENDERS];
            servedLast = pool.served[security];
            freeSum = 0;
            for (int l = 0; l < lenders; l++) {
                int held = pool.heldBy(l, security);
                whole[l] = Math.max(1, held);
                lent[l] = pool.lentBy(l, security);
                free[l] = l == except ? 0 : Math.max(0, held * pool.limit[l] / PERCENT - lent[l]);
                freeSum += free[l];
            }
        }

        /** Divides a quantity of at most freeSum among the lenders that were measured. */
        void share(int policy, int quantity) {
            Arrays.fill(gives, 0);
            lastInTurn = NONE;
            if (policy == BY_PART) {
                giveByRest(giveParts(quantity));
            } else if (policy == BY_USE) {
                orderByUse();
                giveInOrder(quantity);
            } else {
                orderByTurn(servedLast);
                lastInTurn = giveInOrder(quantity);
            }
        }

        void orderByUse() {
            for (int l = 0; l < lenders; l++) {
                int place = l;
                while (place > 0
                        && (long) lent[l] * whole[order[place - 1]] < (long) lent[order[place - 1]] * whole[l]) {
                    order[place] = order[place - 1];
                    place--;
                }
                order[place] = l;
            }
        }

        private void orderByTurn(int last) {
            int next = last + 1;
            for (int place = 0; place < lenders; place++) {
                if (next >= lenders) {
                    next = 0;
                }
                order[place] = next;
                next++;
            }
        }

        private int giveInOrder(int quantity) {
            int needed = quantity;
            int last = NONE;
            for (int place = 0; place < lenders && needed > 0; place++) {
                int l = order[place];
                gives[l] = Math.min(free[l], needed);
                needed -= gives[l];
                if (gives[l] > 0) {
                    last = l;
                }
            }
            return last;
        }

        /** Answers how many shares the truncated parts leave over. */
        private int giveParts(int quantity) {
            int needed = quantity;
            for (int l = 0; l < lenders && freeSum > 0; l++) {
                long product = (long) quantity * free[l];
                gives[l] = (int) (product / freeSum);
                rest[l] = product % freeSum;
                needed -= gives[l];
            }
            return needed;
        }

        /** Fewer shares are left over than there are lenders with a rest, so no lender gives two of them. */
        private void giveByRest(int needed) {
            for (int turn = 0; turn < lenders && turn < needed; turn++) {
                int greatest = 0;
                for (int l = 1; l < lenders; l++) {
                    if (rest[l] > rest[greatest]) {
                        greatest = l;
                    }
                }
                gives[greatest]++;
                rest[greatest] = 0;
            }
        }

        void bookInto(Pool pool, Loan loan) {
            for (int l = 0; l < lenders; l++) {
                loan.shares[l] += gives[l];
            }
            if (lastInTurn != NONE) {
                pool.served[loan.security] = lastInTurn;
            }
        }

        /** The difference of the greatest and the least number of shares that would then be on loan. */
        int spread() {
            int least = lent[0] + gives[0];
            int greatest = least;
            for (int l = 1; l < lenders; l++) {
                least = Math.min(least, lent[l] + gives[l]);
                greatest = Math.max(greatest, lent[l] + gives[l]);
            }
            return greatest - least;
        }
    }

    /** Tells what stands against a change of a pool, and makes it; a change is made only if nothing does. */
    private static final class Desk {
        final Allocation allocation = new Allocation();
        final int[] callOrder = new int[MAX_OPEN];
        private final Loan emptied = new Loan();

        int lendFault(Pool pool, int borrower, int security, int quantity, int rebate) {
            if (!pool.hasBorrower(borrower) || !pool.hasSecurity(security)) {
                return NO_INDEX;
            }
            if (outside(quantity, 1, MAX_SHARES) || outside(rebate, 0, MAX_RATE)) {
                return BAD_ARGUMENT;
            }
            if (pool.numbers[OPEN] >= MAX_OPEN || pool.freeOfAll(security) < quantity) {
                return BAD_STATE;
            }
            long owed = pool.owedBy(borrower, NONE) + (long) quantity * pool.price[security];
            return owed > pool.credit[borrower] ? BAD_STATE : FINE;
        }

        int lend(Pool pool, int borrower, int security, int quantity, int rebate) {
            allocation.measure(pool, security, NONE);
            allocation.share(pool.numbers[POLICY], quantity);
            Loan loan = pool.open(borrower, security, rebate);
            allocation.bookInto(pool, loan);
            return loan.number;
        }

        int giveBackFault(Pool pool, int number, int quantity) {
            int place = pool.placeOf(number);
            if (place == NONE) {
                return NO_INDEX;
            }
            return outside(quantity, 1, pool.loans[place].quantity()) ? BAD_ARGUMENT : FINE;
        }

        int giveBack(Pool pool, int number, int quantity) {
            int place = pool.placeOf(number);
            if (place == NONE) {
                return 0;
            }
            Loan loan = pool.loans[place];
            int left = quantity;
            for (int turn = 0; turn < 2 * MAX_LENDERS && left > 0; turn++) {
                int lender = loan.nextReturner();
                if (lender == NONE) {
                    break;
                }
                int part = Math.min(left, loan.returnsAtOnce(lender));
                loan.handBack(lender, part);
                left -= part;
            }
            pool.dropClosed();
            return loan.quantity();
        }

        /** The lender at an index of the order in which a whole loan would be returned, or NONE. */
        int returner(Loan loan, int index) {
            emptied.copyFrom(loan);
            for (int turn = 0; turn < index; turn++) {
                int lender = emptied.nextReturner();
                if (lender == NONE) {
                    return NONE;
                }
                emptied.handBack(lender, emptied.returnsAtOnce(lender));
            }
            return emptied.nextReturner();
        }

        int quantityFault(Pool pool, int lender, int security, int quantity) {
            if (!pool.hasLender(lender) || !pool.hasSecurity(security)) {
                return NO_INDEX;
            }
            return outside(quantity, 1, MAX_SHARES) ? BAD_ARGUMENT : FINE;
        }

        int callInFault(Pool pool, int lender, int security, int quantity) {
            int fault = quantityFault(pool, lender, security, quantity);
            if (fault != FINE) {
                return fault;
            }
            return pool.unrecalledOf(lender, security) < quantity ? BAD_STATE : FINE;
        }

        int callIn(Pool pool, int lender, int security, int quantity) {
            int loans = putInCallOrder(pool, lender, security);
            int left = quantity;
            int replaced = 0;
            for (int i = 0; i < loans && left > 0; i++) {
                Loan loan = pool.loans[callOrder[i]];
                int wanted = Math.min(left, loan.shares[lender] - loan.recalled[lender]);
                replaced += callInFrom(pool, loan, lender, wanted);
                left -= wanted;
            }
            pool.sums[REPLACED] += replaced;
            return replaced;
        }

        /** Each loan is allocated anew by itself: what one takes is no longer available for the next. */
        private int callInFrom(Pool pool, Loan loan, int lender, int wanted) {
            allocation.measure(pool, loan.security, lender);
            int swapped = Math.min(wanted, allocation.freeSum);
            if (swapped > 0) {
                allocation.share(pool.numbers[POLICY], swapped);
                loan.shares[lender] -= swapped;
                allocation.bookInto(pool, loan);
            }
            if (swapped < wanted) {
                loan.recalled[lender] += wanted - swapped;
                if (loan.due[lender] == NONE) {
                    loan.due[lender] = pool.numbers[DAY] + pool.numbers[NOTICE];
                }
            }
            return swapped;
        }

        /** Puts the places of the loans into callOrder and answers how many there are. */
        int putInCallOrder(Pool pool, int lender, int security) {
            int found = 0;
            for (int k = 0; k < pool.numbers[OPEN]; k++) {
                if (pool.loans[k].security == security && pool.loans[k].shares[lender] > 0) {
                    int place = found;
                    while (place > 0 && pool.loans[callOrder[place - 1]].rebate < pool.loans[k].rebate) {
                        callOrder[place] = callOrder[place - 1];
                        place--;
                    }
                    callOrder[place] = k;
                    found++;
                }
            }
            return found;
        }

        int goOnFault(int days) {
            return outside(days, 1, MAX_DAYS) ? BAD_ARGUMENT : FINE;
        }

        /** No slice touches another while days pass, so each goes through all the days by itself. */
        int goOn(Pool pool, int days) {
            int bought = 0;
            for (int k = 0; k < pool.numbers[OPEN]; k++) {
                for (int l = 0; l < pool.numbers[LENDERS]; l++) {
                    bought += ageSlice(pool, pool.loans[k], l, days);
                }
            }
            pool.numbers[DAY] += days;
            pool.sums[BOUGHT_IN] += bought;
            pool.dropClosed();
            return bought;
        }

        private int ageSlice(Pool pool, Loan loan, int lender, int days) {
            int whole = days;
            int bought = 0;
            if (loan.recalled[lender] > 0) {
                int daysToBuyIn = loan.due[lender] + 1 - pool.numbers[DAY];
                if (daysToBuyIn <= days) {
                    whole = daysToBuyIn;
                    bought = loan.recalled[lender];
                }
            }
            chargeFees(pool, loan, lender, whole);
            if (bought > 0) {
                buyIn(pool, loan, lender);
                chargeFees(pool, loan, lender, days - whole);
            }
            return bought;
        }

        private void chargeFees(Pool pool, Loan loan, int lender, int days) {
            long fee = pool.feeOf(loan, lender);
            long kept = fee * pool.split[lender] / PERCENT;
            pool.balances[FIRST_BORROWER_ACCOUNT + loan.borrower] -= fee * days;
            pool.balances[lender] += kept * days;
            pool.balances[AGENT_ACCOUNT] += (fee - kept) * days;
            pool.sums[FEES] += fee * days;
        }

        private void buyIn(Pool pool, Loan loan, int lender) {
            int part = loan.recalled[lender];
            long value = (long) part * pool.price[loan.security];
            long cost = value * (PERCENT + pool.numbers[PENALTY]) / PERCENT;
            pool.balances[FIRST_BORROWER_ACCOUNT + loan.borrower] -= cost;
            pool.balances[MARKET_ACCOUNT] += cost;
            loan.handBack(lender, part);
        }

        int dividendFault(Pool pool, int security, int amount) {
            if (!pool.hasSecurity(security)) {
                return NO_INDEX;
            }
            return outside(amount, 1, MAX_AMOUNT) ? BAD_ARGUMENT : FINE;
        }

        long dividend(Pool pool, int security, int amount) {
            long sum = 0;
            for (int k = 0; k < pool.numbers[OPEN]; k++) {
                if (pool.loans[k].security == security) {
                    for (int l = 0; l < pool.numbers[LENDERS]; l++) {
                        sum += payOn(pool, pool.loans[k], l, amount);
                    }
                }
            }
            return sum;
        }

        private long payOn(Pool pool, Loan loan, int lender, int amount) {
            long paid = (long) loan.shares[lender] * amount;
            long got = paid * (PERCENT - pool.tax[lender]) / PERCENT;
            pool.balances[FIRST_BORROWER_ACCOUNT + loan.borrower] -= paid;
            pool.balances[lender] += got;
            pool.balances[TAX_ACCOUNT] += paid - got;
            return paid;
        }

        /** A lender buys shares, or sells them if the quantity is negative. */
        int trade(Pool pool, int lender, int security, int quantity) {
            long value = (long) quantity * pool.price[security];
            pool.balances[lender] -= value;
            pool.balances[MARKET_ACCOUNT] += value;
            pool.held[lender * MAX_SECURITIES + security] += quantity;
            return pool.heldBy(lender, security);
        }

        int priceFault(Pool pool, int security, int price) {
            if (!pool.hasSecurity(security)) {
                return NO_INDEX;
            }
            return outside(price, 1, MAX_PRICE) ? BAD_ARGUMENT : FINE;
        }
    }

    /** Chooses loans by the shares of one lender in them that are not recalled yet. */
    private static final class LoanChoice {
        int bestSum;
        int bestSet;
        private int bestSize;
        private int wanted;
        private int loans;
        private final int[] spare = new int[MAX_OPEN];

        void look(Pool pool, int lender, int security) {
            loans = pool.numbers[OPEN];
            for (int k = 0; k < loans; k++) {
                spare[k] = pool.unrecalledIn(k, lender, security);
            }
        }

        int fewest(int quantity) {
            int taken = 0;
            int sum = 0;
            while (taken < loans && sum < quantity) {
                sum += takeGreatest();
                taken++;
            }
            return taken;
        }

        private int takeGreatest() {
            int greatest = 0;
            for (int k = 1; k < loans; k++) {
                if (spare[k] > spare[greatest]) {
                    greatest = k;
                }
            }
            int taken = spare[greatest];
            spare[greatest] = 0;
            return taken;
        }

        void findTightest(int quantity) {
            wanted = quantity;
            bestSum = BEYOND_ALL;
            bestSize = BEYOND_ALL;
            bestSet = 0;
            extend(0, 0, 0, 0);
        }

        /** A set that has enough is not extended: one more loan could only make it worse. */
        private void extend(int next, int set, int size, int sum) {
            if (sum >= wanted) {
                judge(set, size, sum);
                return;
            }
            if (next >= loans) {
                return;
            }
            if (spare[next] > 0) {
                extend(next + 1, set | 1 << next, size + 1, sum + spare[next]);
            }
            extend(next + 1, set, size, sum);
        }

        private void judge(int set, int size, int sum) {
            boolean better = sum < bestSum;
            if (sum == bestSum) {
                better = size < bestSize || size == bestSize && set < bestSet;
            }
            if (better) {
                bestSum = sum;
                bestSize = size;
                bestSet = set;
            }
        }
    }

    /** The text buffer and the token in it that was read last. */
    private static final class Text {
        static final int END = 0;
        static final int WORD = 1;
        static final int NUMBER = 2;
        static final int SEMICOLON = 3;
        static final int STRANGE = 4;

        int length;
        int kind;
        int start;
        int value;
        private int end;
        private final char[] signs = new char[MAX_TEXT];

        boolean hasRoom(int more) {
            return length + more <= MAX_TEXT;
        }

        void addFour(int bytes) {
            for (int shift = 24; shift >= 0; shift -= 8) {
                if (length < MAX_TEXT) {
                    signs[length] = (char) (bytes >>> shift & 255);
                    length++;
                }
            }
        }

        void goToStart() {
            end = 0;
        }

        void readToken() {
            start = end;
            while (start < length && isSpace(signs[start])) {
                start++;
            }
            end = start;
            if (start >= length) {
                kind = END;
            } else if (isLetter(signs[start])) {
                readWord();
            } else if (isDigit(signs[start])) {
                readNumber();
            } else {
                kind = signs[start] == ';' ? SEMICOLON : STRANGE;
                end = start + 1;
            }
        }

        private void readWord() {
            kind = WORD;
            while (end < length && isLetter(signs[end])) {
                end++;
            }
        }

        private void readNumber() {
            kind = NUMBER;
            value = 0;
            while (end < length && isDigit(signs[end])) {
                if (end - start < MAX_DIGITS) {
                    value = value * 10 + signs[end] - '0';
                }
                end++;
            }
        }

        boolean isLongNumber() {
            return kind == NUMBER && end - start > MAX_DIGITS;
        }

        boolean isWord(String word) {
            if (kind != WORD || end - start != word.length()) {
                return false;
            }
            for (int i = 0; i < word.length(); i++) {
                if (signs[start + i] != word.charAt(i)) {
                    return false;
                }
            }
            return true;
        }

        private static boolean isSpace(char sign) {
            return sign == 32 || sign == 10;
        }

        private static boolean isLetter(char sign) {
            return sign >= 'a' && sign <= 'z';
        }

        private static boolean isDigit(char sign) {
            return sign >= '0' && sign <= '9';
        }
    }

    /** Reads a pool text; code and position tell the error of the latest one. */
    private static final class PoolReader {
        private static final int POOL = 0;
        private static final int SECURITY = 1;
        private static final int LENDER = 2;
        private static final int BORROWER = 3;
        private static final int HOLDING = 4;

        private static final int MISPLACED = 1;
        private static final int OUT_OF_RANGE = 2;
        private static final int POOL_NOT_FIRST = 3;
        private static final int NOT_ADDED = 4;
        private static final int TOO_MANY = 5;

        int code;
        int position = NONE;
        private final int[] values = new int[3];

        int readAll(Text text, Pool pool) {
            code = 0;
            position = NONE;
            pool.empty();
            text.goToStart();
            for (int statements = 0; statements <= MAX_TEXT; statements++) {
                text.readToken();
                if (text.kind == Text.END && statements > 0) {
                    return statements;
                }
                code = readStatement(text, pool, statements == 0);
                if (code != 0) {
                    position = text.start;
                    return NONE;
                }
            }
            return NONE;
        }

        private int readStatement(Text text, Pool pool, boolean isFirst) {
            int keyword = keywordOf(text);
            int fault = keywordFault(pool, keyword, isFirst);
            for (int i = 0; i < valueCount(keyword) && fault == 0; i++) {
                text.readToken();
                fault = valueFault(text, pool, keyword, i);
                values[i] = text.value;
            }
            if (fault != 0) {
                return fault;
            }
            text.readToken();
            if (text.kind != Text.SEMICOLON) {
                return MISPLACED;
            }
            add(pool, keyword);
            return 0;
        }

        private static int keywordOf(Text text) {
            if (text.isWord("pool")) {
                return POOL;
            }
            if (text.isWord("security")) {
                return SECURITY;
            }
            if (text.isWord("lender")) {
                return LENDER;
            }
            if (text.isWord("borrower")) {
                return BORROWER;
            }
            return text.isWord("holding") ? HOLDING : NONE;
        }

        private static int keywordFault(Pool pool, int keyword, boolean isFirst) {
            if (keyword == NONE) {
                return MISPLACED;
            }
            if (isFirst != (keyword == POOL)) {
                return POOL_NOT_FIRST;
            }
            return isFull(pool, keyword) ? TOO_MANY : 0;
        }

        private static boolean isFull(Pool pool, int keyword) {
            switch (keyword) {
                case SECURITY:
                    return pool.numbers[SECURITIES] >= MAX_SECURITIES;
                case LENDER:
                    return pool.numbers[LENDERS] >= MAX_LENDERS;
                case BORROWER:
                    return pool.numbers[BORROWERS] >= MAX_BORROWERS;
                default:
                    return false;
            }
        }

        private static int valueCount(int keyword) {
            switch (keyword) {
                case POOL:
                case SECURITY:
                    return 2;
                case LENDER:
                case HOLDING:
                    return 3;
                case BORROWER:
                    return 1;
                default:
                    return 0;
            }
        }

        private static int valueFault(Text text, Pool pool, int keyword, int index) {
            if (text.kind != Text.NUMBER) {
                return MISPLACED;
            }
            if (text.isLongNumber()) {
                return OUT_OF_RANGE;
            }
            if (keyword == HOLDING && index < 2) {
                boolean added = index == 0 ? pool.hasLender(text.value) : pool.hasSecurity(text.value);
                return added ? 0 : NOT_ADDED;
            }
            int least = keyword == SECURITY && index == 0 ? 1 : 0;
            return outside(text.value, least, greatestValue(keyword, index)) ? OUT_OF_RANGE : 0;
        }

        private static int greatestValue(int keyword, int index) {
            switch (keyword) {
                case POOL:
                    return index == 0 ? MAX_NOTICE : PERCENT;
                case SECURITY:
                    return index == 0 ? MAX_PRICE : MAX_RATE;
                case LENDER:
                    return PERCENT;
                case BORROWER:
                    return MAX_CREDIT;
                default:
                    return MAX_SHARES;
            }
        }

        private void add(Pool pool, int keyword) {
            switch (keyword) {
                case POOL:
                    pool.numbers[NOTICE] = values[0];
                    pool.numbers[PENALTY] = values[1];
                    break;
                case SECURITY:
                    pool.price[pool.numbers[SECURITIES]] = values[0];
                    pool.rate[pool.numbers[SECURITIES]] = values[1];
                    pool.numbers[SECURITIES]++;
                    break;
                case LENDER:
                    pool.split[pool.numbers[LENDERS]] = values[0];
                    pool.limit[pool.numbers[LENDERS]] = values[1];
                    pool.tax[pool.numbers[LENDERS]] = values[2];
                    pool.numbers[LENDERS]++;
                    break;
                case BORROWER:
                    pool.credit[pool.numbers[BORROWERS]] = values[0];
                    pool.numbers[BORROWERS]++;
                    break;
                default:
                    pool.held[values[0] * MAX_SECURITIES + values[1]] = values[2];
                    break;
            }
        }
    }

    /** Reads an order text and carries its orders out on a pool. */
    private static final class OrderReader {
        private static final int BORROW = 0;
        private static final int RETURN = 1;
        private static final int RECALL = 2;
        private static final int PASS = 3;
        private static final int PRICE = 4;
        private static final int DIVIDEND = 5;

        private final int[] values = new int[4];

        /** Answers the number of orders, or -1 - p if the text is wrong at p; then the pool is not to be used. */
        int runAll(Text text, Desk desk, Pool pool) {
            text.goToStart();
            for (int orders = 0; orders <= MAX_TEXT; orders++) {
                text.readToken();
                if (text.kind == Text.END) {
                    return orders;
                }
                int wordStart = text.start;
                int word = wordOf(text);
                if (!readRest(text, word)) {
                    return -1 - text.start;
                }
                if (faultOf(desk, pool, word) != FINE) {
                    return -1 - wordStart;
                }
                carryOut(desk, pool, word);
            }
            return -1 - text.start;
        }

        private boolean readRest(Text text, int word) {
            if (word == NONE) {
                return false;
            }
            for (int i = 0; i < valueCount(word); i++) {
                text.readToken();
                if (text.kind != Text.NUMBER || text.isLongNumber()) {
                    return false;
                }
                values[i] = text.value;
            }
            text.readToken();
            return text.kind == Text.SEMICOLON;
        }

        private static int wordOf(Text text) {
            if (text.isWord("borrow")) {
                return BORROW;
            }
            if (text.isWord("return")) {
                return RETURN;
            }
            if (text.isWord("recall")) {
                return RECALL;
            }
            if (text.isWord("pass")) {
                return PASS;
            }
            if (text.isWord("price")) {
                return PRICE;
            }
            return text.isWord("dividend") ? DIVIDEND : NONE;
        }

        private static int valueCount(int word) {
            switch (word) {
                case BORROW:
                    return 4;
                case RECALL:
                    return 3;
                case PASS:
                    return 1;
                default:
                    return 2;
            }
        }

        private void carryOut(Desk desk, Pool pool, int word) {
            switch (word) {
                case BORROW:
                    desk.lend(pool, values[0], values[1], values[2], values[3]);
                    break;
                case RETURN:
                    desk.giveBack(pool, values[0], values[1]);
                    break;
                case RECALL:
                    desk.callIn(pool, values[0], values[1], values[2]);
                    break;
                case PASS:
                    desk.goOn(pool, values[0]);
                    break;
                case PRICE:
                    pool.price[values[0]] = values[1];
                    break;
                default:
                    desk.dividend(pool, values[0], values[1]);
                    break;
            }
        }

        private int faultOf(Desk desk, Pool pool, int word) {
            switch (word) {
                case BORROW:
                    return desk.lendFault(pool, values[0], values[1], values[2], values[3]);
                case RETURN:
                    return desk.giveBackFault(pool, values[0], values[1]);
                case RECALL:
                    return desk.callInFault(pool, values[0], values[1], values[2]);
                case PASS:
                    return desk.goOnFault(values[0]);
                case PRICE:
                    return desk.priceFault(pool, values[0], values[1]);
                default:
                    return desk.dividendFault(pool, values[0], values[1]);
            }
        }
    }

    /** The states before the latest changes, in rows that are used again. */
    private static final class History {
        int depth;
        private int next;
        private final Pool[] kept = new Pool[MAX_CHANGES];

        void keep(Pool pool) {
            if (kept[next] == null) {
                kept[next] = new Pool();
            }
            kept[next].copyFrom(pool);
            next = (next + 1) % MAX_CHANGES;
            depth = Math.min(depth + 1, MAX_CHANGES);
        }

        void restore(Pool pool) {
            int latest = (next + MAX_CHANGES - 1) % MAX_CHANGES;
            if (depth > 0 && kept[latest] != null) {
                pool.copyFrom(kept[latest]);
                next = latest;
                depth--;
            }
        }

        void forget() {
            depth = 0;
        }
    }

    /** The report that was written last. */
    private static final class Report {
        // Thirteen lines of numbers with ten digits each stay below this.
        private static final int MAX_BYTES = 2200;

        int length;
        final byte[] bytes = new byte[MAX_BYTES];

        void write(Pool pool) {
            length = 0;
            putWord("day ");
            putNumber(pool.numbers[DAY]);
            putWord(" loans ");
            putNumber(pool.numbers[OPEN]);
            put('\n');
            for (int k = 0; k < pool.numbers[OPEN]; k++) {
                putLoan(pool.loans[k]);
            }
        }

        private void putLoan(Loan loan) {
            putWord("loan ");
            putNumber(loan.number);
            putWord(" of ");
            putNumber(loan.quantity());
            for (int l = 0; l < MAX_LENDERS; l++) {
                if (loan.shares[l] > 0) {
                    putSlice(l, loan.shares[l], loan.recalled[l]);
                }
            }
            put('\n');
        }

        private void putSlice(int lender, int shares, int recalled) {
            put(' ');
            putNumber(lender);
            put(':');
            putNumber(shares);
            if (recalled > 0) {
                put('-');
                putNumber(recalled);
            }
        }

        private void putWord(String word) {
            for (int i = 0; i < word.length(); i++) {
                put(word.charAt(i));
            }
        }

        private void putNumber(int number) {
            boolean begun = false;
            for (int unit = 1000000000; unit > 0; unit /= 10) {
                int digit = number / unit % 10;
                begun = begun || digit > 0 || unit == 1;
                if (begun) {
                    put((char) ('0' + digit));
                }
            }
        }

        private void put(char sign) {
            if (length < MAX_BYTES) {
                bytes[length] = (byte) sign;
                length++;
            }
        }
    }
}
