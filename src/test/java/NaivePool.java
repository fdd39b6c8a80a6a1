import java.math.BigInteger;
import java.util.ArrayDeque;
import java.util.ArrayList;
import java.util.Arrays;
import java.util.Collections;
import java.util.Comparator;
import java.util.Deque;
import java.util.HashMap;
import java.util.List;
import java.util.Map;
import java.util.NoSuchElementException;
import java.util.TreeMap;
import java.util.function.Function;
import java.util.regex.Matcher;
import java.util.regex.Pattern;

/** The document once more, as slow and literal as can be, to compare the class with. */
public final class NaivePool {
    static final class Slice {
        int shares;
        int recalled;
        int due = -1;
    }

    static final class Deal {
        int number;
        int borrower;
        int security;
        int rebate;
        int day;
        TreeMap<Integer, Slice> slices = new TreeMap<>();

        int quantity() {
            return slices.values().stream().mapToInt(x -> x.shares).sum();
        }
    }

    static final class State {
        int notice;
        int penalty;
        int policy;
        int day;
        int made;
        List<int[]> securities = new ArrayList<>();
        List<int[]> lenders = new ArrayList<>();
        List<Integer> borrowers = new ArrayList<>();
        Map<String, Integer> holdings = new HashMap<>();
        Map<Integer, Integer> served = new HashMap<>();
        Map<String, Long> accounts = new HashMap<>();
        List<Deal> deals = new ArrayList<>();
        long fees;
        long bought;
        long replaced;

        State copy() {
            State c = new State();
            c.notice = notice;
            c.penalty = penalty;
            c.policy = policy;
            c.day = day;
            c.made = made;
            securities.forEach(x -> c.securities.add(x.clone()));
            lenders.forEach(x -> c.lenders.add(x.clone()));
            c.borrowers.addAll(borrowers);
            c.holdings.putAll(holdings);
            c.served.putAll(served);
            c.accounts.putAll(accounts);
            for (Deal d : deals) {
                Deal e = new Deal();
                e.number = d.number;
                e.borrower = d.borrower;
                e.security = d.security;
                e.rebate = d.rebate;
                e.day = d.day;
                d.slices.forEach((l, x) -> {
                    Slice y = new Slice();
                    y.shares = x.shares;
                    y.recalled = x.recalled;
                    y.due = x.due;
                    e.slices.put(l, y);
                });
                c.deals.add(e);
            }
            c.fees = fees;
            c.bought = bought;
            c.replaced = replaced;
            return c;
        }

        int held(int l, int s) {
            return holdings.getOrDefault(l + "/" + s, 0);
        }

        int lent(int l, int s) {
            return deals.stream().filter(d -> d.security == s && d.slices.containsKey(l))
                .mapToInt(d -> d.slices.get(l).shares).sum();
        }

        int free(int l, int s) {
            return Math.max(0, held(l, s) * lenders.get(l)[1] / 100 - lent(l, s));
        }

        int freeWithout(int except, int s) {
            int sum = 0;
            for (int l = 0; l < lenders.size(); l++) {
                if (l != except) {
                    sum += free(l, s);
                }
            }
            return sum;
        }

        long exposure(int b) {
            return deals.stream().filter(d -> d.borrower == b)
                .mapToLong(d -> (long) d.quantity() * securities.get(d.security)[0]).sum();
        }

        void move(String payer, String payee, long amount) {
            accounts.merge(payer, -amount, Long::sum);
            accounts.merge(payee, amount, Long::sum);
        }

        List<Integer> byUse(int s) {
            List<Integer> all = new ArrayList<>();
            for (int l = 0; l < lenders.size(); l++) {
                all.add(l);
            }
            all.sort((a, b) -> {
                BigInteger la = BigInteger.valueOf(held(a, s) == 0 ? 0 : lent(a, s));
                BigInteger lb = BigInteger.valueOf(held(b, s) == 0 ? 0 : lent(b, s));
                BigInteger ha = BigInteger.valueOf(held(a, s) == 0 ? 1 : held(a, s));
                BigInteger hb = BigInteger.valueOf(held(b, s) == 0 ? 1 : held(b, s));
                int c = la.multiply(hb).compareTo(lb.multiply(ha));
                return c != 0 ? c : Integer.compare(a, b);
            });
            return all;
        }

        /** What each lender gives; remembers the last giver of policy 2 only if that is asked for. */
        Map<Integer, Integer> allocate(int s, int number, int except, int how, boolean remember) {
            Map<Integer, Integer> gives = new TreeMap<>();
            List<Integer> order = new ArrayList<>();
            if (how == 1) {
                return allocateByPart(s, number, except);
            } else if (how == 0) {
                order = byUse(s);
            } else {
                int n = lenders.size();
                int start = served.getOrDefault(s, -1) + 1;
                for (int i = 0; i < n; i++) {
                    order.add((start + i) % n);
                }
            }
            int needed = number;
            for (int l : order) {
                int part = l == except ? 0 : Math.min(needed, free(l, s));
                if (part > 0) {
                    gives.put(l, part);
                    needed -= part;
                    if (how == 2 && remember) {
                        served.put(s, l);
                    }
                }
            }
            return gives;
        }

        Map<Integer, Integer> allocateByPart(int s, int number, int except) {
            Map<Integer, Integer> gives = new TreeMap<>();
            BigInteger sum = BigInteger.valueOf(freeWithout(except, s));
            List<Integer> order = new ArrayList<>();
            Map<Integer, BigInteger> rests = new HashMap<>();
            int needed = number;
            for (int l = 0; l < lenders.size(); l++) {
                if (l == except || sum.signum() == 0) {
                    continue;
                }
                BigInteger[] qr = BigInteger.valueOf(number).multiply(BigInteger.valueOf(free(l, s))).divideAndRemainder(sum);
                gives.put(l, qr[0].intValueExact());
                rests.put(l, qr[1]);
                order.add(l);
                needed -= qr[0].intValueExact();
            }
            order.sort(Comparator.comparing((Integer l) -> rests.get(l)).reversed().thenComparing(l -> l));
            for (int i = 0; i < needed; i++) {
                gives.merge(order.get(i), 1, Integer::sum);
            }
            return gives;
        }

        void add(Deal d, Map<Integer, Integer> gives) {
            gives.forEach((l, n) -> {
                if (n > 0) {
                    d.slices.computeIfAbsent(l, x -> new Slice()).shares += n;
                }
            });
        }

        void tidy() {
            for (Deal d : deals) {
                for (Slice x : d.slices.values()) {
                    if (x.recalled == 0) {
                        x.due = -1;
                    }
                }
                d.slices.values().removeIf(x -> x.shares == 0);
            }
            deals.removeIf(d -> d.slices.isEmpty());
        }

        Deal deal(int number) {
            return deals.stream().filter(d -> d.number == number).findFirst()
                .orElseThrow(IndexOutOfBoundsException::new);
        }

        int oneDay() {
            for (Deal d : deals) {
                int[] sec = securities.get(d.security);
                d.slices.forEach((l, x) -> {
                    long fee = (long) x.shares * sec[0] * (sec[1] - d.rebate) / 3600000;
                    long part = fee * lenders.get(l)[0] / 100;
                    fees += fee;
                    move("b" + d.borrower, "l" + l, part);
                    move("b" + d.borrower, "agent", fee - part);
                });
            }
            day++;
            int in = 0;
            for (Deal d : deals) {
                for (Slice x : d.slices.values()) {
                    if (x.due != -1 && x.due < day) {
                        long cost = (long) x.recalled * securities.get(d.security)[0] * (100 + penalty) / 100;
                        move("b" + d.borrower, "market", cost);
                        in += x.recalled;
                        x.shares -= x.recalled;
                        x.recalled = 0;
                    }
                }
            }
            bought += in;
            tidy();
            return in;
        }

        List<Deal> recallOrder(int l, int s) {
            List<Deal> found = new ArrayList<>();
            deals.stream().filter(d -> d.security == s && d.slices.containsKey(l)).forEach(found::add);
            found.sort(Comparator.comparing((Deal d) -> -d.rebate).thenComparing(d -> d.number));
            return found;
        }

        int recallable(int l, int s) {
            return recallOrder(l, s).stream().mapToInt(d -> d.slices.get(l).shares - d.slices.get(l).recalled).sum();
        }

        int recall(int l, int s, int quantity) {
            int wanted = quantity;
            int swappedInAll = 0;
            for (Deal d : recallOrder(l, s)) {
                Slice x = d.slices.get(l);
                int taken = Math.min(wanted, x.shares - x.recalled);
                wanted -= taken;
                int swapped = Math.min(taken, freeWithout(l, s));
                if (swapped > 0) {
                    Map<Integer, Integer> gives = allocate(s, swapped, l, policy, true);
                    add(d, gives);
                    x.shares -= swapped;
                    swappedInAll += swapped;
                }
                if (taken > swapped) {
                    x.recalled += taken - swapped;
                    if (x.due == -1) {
                        x.due = day + notice;
                    }
                }
            }
            replaced += swappedInAll;
            tidy();
            return swappedInAll;
        }

        List<Integer> recalledFirst(Deal d) {
            List<Integer> order = new ArrayList<>();
            d.slices.forEach((l, x) -> {
                if (x.recalled > 0) {
                    order.add(l);
                }
            });
            order.sort(Comparator.comparing((Integer l) -> d.slices.get(l).due).thenComparing(l -> l));
            return order;
        }

        List<Integer> othersThen(Deal d) {
            List<Integer> order = new ArrayList<>();
            d.slices.forEach((l, x) -> {
                if (x.shares > x.recalled) {
                    order.add(l);
                }
            });
            order.sort(Comparator.comparing((Integer l) -> d.slices.get(l).recalled - d.slices.get(l).shares)
                .thenComparing(l -> l));
            return order;
        }

        int giveBack(Deal d, int quantity) {
            int left = quantity;
            for (int l : recalledFirst(d)) {
                Slice x = d.slices.get(l);
                int part = Math.min(left, x.recalled);
                x.recalled -= part;
                x.shares -= part;
                left -= part;
            }
            for (int l : othersThen(d)) {
                Slice x = d.slices.get(l);
                int part = Math.min(left, x.shares - x.recalled);
                x.shares -= part;
                left -= part;
            }
            int rest = d.quantity();
            tidy();
            return rest;
        }
    }

    private State now = new State();
    private final Deque<State> past = new ArrayDeque<>();
    private final StringBuilder buffer = new StringBuilder();
    private int code;
    private int position = -1;
    private String report = "";

    static void index(boolean good) {
        if (!good) {
            throw new IndexOutOfBoundsException();
        }
    }

    static void argument(boolean good) {
        if (!good) {
            throw new IllegalArgumentException();
        }
    }

    static void state(boolean good) {
        if (!good) {
            throw new IllegalStateException();
        }
    }

    static void element(boolean good) {
        if (!good) {
            throw new NoSuchElementException();
        }
    }

    static boolean in(int x, int low, int high) {
        return low <= x && x <= high;
    }

    private void theSecurity(int s) {
        index(in(s, 0, now.securities.size() - 1));
    }

    private void theLender(int l) {
        index(in(l, 0, now.lenders.size() - 1));
    }

    private void theBorrower(int b) {
        index(in(b, 0, now.borrowers.size() - 1));
    }

    /** Tries the change on a copy, which becomes the present only if nothing was thrown. */
    private <T> T change(Function<State, T> what) {
        State before = now;
        now = before.copy();
        try {
            T answer = what.apply(now);
            past.addLast(before);
            if (past.size() > 10) {
                past.removeFirst();
            }
            return answer;
        } catch (RuntimeException e) {
            now = before;
            throw e;
        }
    }

    public int appendText(int a, int b, int c, int d, int e) {
        state(buffer.length() <= 580);
        for (int x : new int[] {a, b, c, d, e}) {
            buffer.append((char) (x >>> 24)).append((char) (x >> 16 & 255)).append((char) (x >> 8 & 255)).append((char) (x & 255));
        }
        return buffer.length();
    }

    public int truncateText(int length) {
        argument(in(length, 0, buffer.length()));
        buffer.setLength(length);
        return length;
    }

    /** A token's text and where it begins; the last one is empty and stands at the text's length. */
    record Token(String text, int at) {
        boolean isNumber() {
            return !text.isEmpty() && text.charAt(0) >= '0' && text.charAt(0) <= '9';
        }
    }

    private List<Token> tokens() {
        List<Token> found = new ArrayList<>();
        Matcher m = Pattern.compile("[a-z]+|[0-9]+|[^ \n]", Pattern.DOTALL).matcher(buffer);
        while (m.find()) {
            found.add(new Token(m.group(), m.start()));
        }
        found.add(new Token("", buffer.length()));
        buffer.setLength(0);
        return found;
    }

    private static final Map<String, int[][]> STATEMENTS = Map.of(
        "pool", new int[][] {{0, 30}, {0, 100}},
        "security", new int[][] {{1, 9999}, {0, 9999}},
        "lender", new int[][] {{0, 100}, {0, 100}, {0, 100}},
        "borrower", new int[][] {{0, 9999999}},
        "holding", new int[][] {{}, {}, {0, 99999}});

    private int fail(int newCode, Token t) {
        code = newCode;
        position = t.at;
        return -1;
    }

    public int parsePool() {
        List<Token> all = tokens();
        State fresh = new State();
        code = 0;
        position = -1;
        int statements = 0;
        int i = 0;
        while (i < all.size() - 1 || statements == 0) {
            Token word = all.get(i++);
            int[][] ranges = STATEMENTS.get(word.text);
            if (ranges == null) {
                return fail(1, word);
            }
            if (word.text.equals("pool") != (statements == 0)) {
                return fail(3, word);
            }
            if (word.text.equals("security") && fresh.securities.size() == 4
                || word.text.equals("lender") && fresh.lenders.size() == 6
                || word.text.equals("borrower") && fresh.borrowers.size() == 4) {
                return fail(5, word);
            }
            int[] v = new int[ranges.length];
            for (int k = 0; k < ranges.length; k++) {
                Token t = all.get(i++);
                if (!t.isNumber()) {
                    return fail(1, t);
                }
                if (t.text.length() > 7) {
                    return fail(2, t);
                }
                v[k] = Integer.parseInt(t.text);
                if (ranges[k].length == 2 && !in(v[k], ranges[k][0], ranges[k][1])) {
                    return fail(2, t);
                }
                if (ranges[k].length == 0 && v[k] >= (k == 0 ? fresh.lenders.size() : fresh.securities.size())) {
                    return fail(4, t);
                }
            }
            Token end = all.get(i++);
            if (!end.text.equals(";")) {
                return fail(1, end);
            }
            switch (word.text) {
                case "pool" -> {
                    fresh.notice = v[0];
                    fresh.penalty = v[1];
                }
                case "security" -> fresh.securities.add(v);
                case "lender" -> fresh.lenders.add(v);
                case "borrower" -> fresh.borrowers.add(v[0]);
                default -> fresh.holdings.put(v[0] + "/" + v[1], v[2]);
            }
            statements++;
        }
        now = fresh;
        past.clear();
        return statements;
    }

    public int errorCode() {
        return code;
    }

    public int errorPosition() {
        return position;
    }

    public int borrow(int borrower, int security, int quantity, int rebate) {
        return change(p -> borrowIn(p, borrower, security, quantity, rebate));
    }

    private int borrowIn(State p, int borrower, int security, int quantity, int rebate) {
        theBorrower(borrower);
        theSecurity(security);
        argument(in(quantity, 1, 99999) && in(rebate, 0, 9999));
        state(p.deals.size() < 12);
        state(p.freeWithout(-1, security) >= quantity);
        Deal d = new Deal();
        d.number = p.made++;
        d.borrower = borrower;
        d.security = security;
        d.rebate = rebate;
        d.day = p.day;
        p.add(d, p.allocate(security, quantity, -1, p.policy, true));
        p.deals.add(d);
        state(p.exposure(borrower) <= p.borrowers.get(borrower));
        return d.number;
    }

    public int returnShares(int loan, int quantity) {
        return change(p -> {
            Deal d = p.deal(loan);
            argument(in(quantity, 1, d.quantity()));
            return p.giveBack(d, quantity);
        });
    }

    public int recall(int lender, int security, int quantity) {
        return change(p -> recallIn(p, lender, security, quantity));
    }

    private int recallIn(State p, int lender, int security, int quantity) {
        theLender(lender);
        theSecurity(security);
        argument(in(quantity, 1, 99999));
        state(p.recallable(lender, security) >= quantity);
        return p.recall(lender, security, quantity);
    }

    public int passDays(int days) {
        return change(p -> {
            argument(in(days, 1, 400));
            return passIn(p, days);
        });
    }

    private int passIn(State p, int days) {
        int sum = 0;
        for (int i = 0; i < days; i++) {
            sum += p.oneDay();
        }
        return sum;
    }

    public long payDividend(int security, int amount) {
        return change(p -> {
            theSecurity(security);
            argument(in(amount, 1, 9999));
            long sum = 0;
            for (Deal d : p.deals) {
                if (d.security == security) {
                    for (Map.Entry<Integer, Slice> x : d.slices.entrySet()) {
                        long paid = (long) x.getValue().shares * amount;
                        long got = paid * (100 - p.lenders.get(x.getKey())[2]) / 100;
                        p.move("b" + d.borrower, "l" + x.getKey(), got);
                        p.move("b" + d.borrower, "tax", paid - got);
                        sum += paid;
                    }
                }
            }
            return sum;
        });
    }

    public int buyShares(int lender, int security, int quantity) {
        return change(p -> {
            theLender(lender);
            theSecurity(security);
            argument(in(quantity, 1, 99999));
            state(p.held(lender, security) + quantity <= 99999);
            p.move("l" + lender, "market", (long) quantity * p.securities.get(security)[0]);
            return p.holdings.merge(lender + "/" + security, quantity, Integer::sum);
        });
    }

    public int sellShares(int lender, int security, int quantity) {
        return change(p -> {
            theLender(lender);
            theSecurity(security);
            argument(in(quantity, 1, 99999));
            state(p.held(lender, security) - p.lent(lender, security) >= quantity);
            p.move("market", "l" + lender, (long) quantity * p.securities.get(security)[0]);
            return p.holdings.merge(lender + "/" + security, -quantity, Integer::sum);
        });
    }

    private static int put(int[] row, int place, int value) {
        int old = row[place];
        row[place] = value;
        return old;
    }

    public int setPrice(int security, int price) {
        return change(p -> {
            theSecurity(security);
            argument(in(price, 1, 9999));
            return put(p.securities.get(security), 0, price);
        });
    }

    public int setRate(int security, int rate) {
        return change(p -> {
            theSecurity(security);
            argument(in(rate, 0, 9999));
            return put(p.securities.get(security), 1, rate);
        });
    }

    public int setLimit(int lender, int limit) {
        return change(p -> {
            theLender(lender);
            argument(in(limit, 0, 100));
            return put(p.lenders.get(lender), 1, limit);
        });
    }

    public int setPolicy(int policy) {
        return change(p -> {
            argument(in(policy, 0, 2));
            int old = p.policy;
            p.policy = policy;
            return old;
        });
    }

    private static final Map<String, Integer> ORDERS = Map.of(
        "borrow", 4, "return", 2, "recall", 3, "pass", 1, "price", 2, "dividend", 2);

    public int runOrders() {
        List<Token> all = tokens();
        State before = now.copy();
        List<State> pastBefore = new ArrayList<>(past);
        int wrong = -1;
        int orders = 0;
        int i = 0;
        while (i < all.size() - 1 && wrong == -1) {
            Token word = all.get(i++);
            Integer n = ORDERS.get(word.text);
            if (n == null) {
                wrong = word.at;
                break;
            }
            int[] v = new int[n];
            for (int k = 0; k < n && wrong == -1; k++) {
                Token t = all.get(i++);
                if (!t.isNumber() || t.text.length() > 7) {
                    wrong = t.at;
                } else {
                    v[k] = Integer.parseInt(t.text);
                }
            }
            if (wrong == -1 && !all.get(i).text.equals(";")) {
                wrong = all.get(i).at;
            }
            i++;
            if (wrong == -1) {
                try {
                    order(word.text, v);
                    orders++;
                } catch (RuntimeException e) {
                    wrong = word.at;
                }
            }
        }
        past.clear();
        past.addAll(pastBefore);
        if (wrong != -1) {
            now = before;
            return -1 - wrong;
        }
        State after = now;
        now = before;
        change(p -> 0);
        now = after;
        return orders;
    }

    private void order(String word, int[] v) {
        switch (word) {
            case "borrow" -> borrow(v[0], v[1], v[2], v[3]);
            case "return" -> returnShares(v[0], v[1]);
            case "recall" -> recall(v[0], v[1], v[2]);
            case "pass" -> passDays(v[0]);
            case "price" -> setPrice(v[0], v[1]);
            default -> payDividend(v[0], v[1]);
        }
    }

    public int count(int what) {
        return switch (what) {
            case 0 -> now.securities.size();
            case 1 -> now.lenders.size();
            case 2 -> now.borrowers.size();
            case 3 -> now.deals.size();
            case 4 -> now.made;
            case 5 -> now.day;
            case 6 -> now.policy;
            case 7 -> now.notice;
            case 8 -> now.penalty;
            default -> throw new IllegalArgumentException();
        };
    }

    public int security(int security, int what) {
        theSecurity(security);
        argument(in(what, 0, 1));
        return now.securities.get(security)[what];
    }

    public int lender(int lender, int what) {
        theLender(lender);
        argument(in(what, 0, 2));
        return now.lenders.get(lender)[what];
    }

    public int credit(int borrower) {
        theBorrower(borrower);
        return now.borrowers.get(borrower);
    }

    public int holding(int lender, int security) {
        theLender(lender);
        theSecurity(security);
        return now.held(lender, security);
    }

    public int onLoan(int lender, int security) {
        theLender(lender);
        theSecurity(security);
        return now.lent(lender, security);
    }

    public int available(int lender, int security) {
        theLender(lender);
        theSecurity(security);
        return now.free(lender, security);
    }

    public int pooled(int security) {
        theSecurity(security);
        return now.freeWithout(-1, security);
    }

    public double utilization(int security) {
        theSecurity(security);
        double lent = 0;
        double held = 0;
        for (int l = 0; l < now.lenders.size(); l++) {
            lent += now.lent(l, security);
            held += now.held(l, security);
        }
        if (held == 0) {
            throw new ArithmeticException();
        }
        return lent / held;
    }

    public long exposure(int borrower) {
        theBorrower(borrower);
        return now.exposure(borrower);
    }

    private String accountName(int kind, int number) {
        argument(in(kind, 0, 4));
        argument(in(number, 0, kind == 0 ? now.lenders.size() - 1 : kind == 1 ? now.borrowers.size() - 1 : 0));
        return kind == 0 ? "l" + number : kind == 1 ? "b" + number : new String[] {"agent", "tax", "market"}[kind - 2];
    }

    public long account(int kind, int number) {
        return now.accounts.getOrDefault(accountName(kind, number), 0L);
    }

    public int openLoan(int index) {
        index(in(index, 0, now.deals.size() - 1));
        return now.deals.get(index).number;
    }

    public int loan(int loan, int what) {
        Deal d = now.deal(loan);
        return switch (what) {
            case 0 -> d.borrower;
            case 1 -> d.security;
            case 2 -> d.quantity();
            case 3 -> d.rebate;
            case 4 -> d.day;
            case 5 -> d.slices.values().stream().mapToInt(x -> x.recalled).sum();
            case 6 -> d.slices.values().stream().mapToInt(x -> x.due).filter(x -> x != -1).min().orElse(-1);
            case 7 -> d.slices.size();
            default -> throw new IllegalArgumentException();
        };
    }

    public int slice(int loan, int lender, int what) {
        Deal d = now.deal(loan);
        theLender(lender);
        argument(in(what, 0, 2));
        Slice x = d.slices.getOrDefault(lender, new Slice());
        return what == 0 ? x.shares : what == 1 ? x.recalled : x.due;
    }

    public long dailyFee(int loan) {
        now.deal(loan);
        State later = now.copy();
        later.deals.removeIf(d -> d.number != loan);
        later.oneDay();
        return later.fees - now.fees;
    }

    public int recallable(int lender, int security) {
        theLender(lender);
        theSecurity(security);
        return now.recallable(lender, security);
    }

    public int recallOrder(int lender, int security, int index) {
        theLender(lender);
        theSecurity(security);
        List<Deal> order = now.recallOrder(lender, security);
        index(in(index, 0, order.size() - 1));
        return order.get(index).number;
    }

    public int returnOrder(int loan, int index) {
        Deal d = now.deal(loan);
        List<Integer> order = now.recalledFirst(d);
        order.addAll(now.othersThen(d));
        index(in(index, 0, order.size() - 1));
        return order.get(index);
    }

    public int quote(int security, int quantity, int lender) {
        theSecurity(security);
        theLender(lender);
        argument(in(quantity, 1, 99999));
        state(now.freeWithout(-1, security) >= quantity);
        return now.allocate(security, quantity, -1, now.policy, false).getOrDefault(lender, 0);
    }

    public int borrowable(int borrower, int security) {
        theBorrower(borrower);
        theSecurity(security);
        int low = 0;
        int high = 99999;
        while (low < high) {
            int middle = (low + high + 1) / 2;
            try {
                borrowIn(now.copy(), borrower, security, middle, 0);
                low = middle;
            } catch (IllegalStateException e) {
                high = middle - 1;
            }
        }
        return low;
    }

    public int wouldReplace(int lender, int security, int quantity) {
        return recallIn(now.copy(), lender, security, quantity);
    }

    private int[] spares(int lender, int security, int quantity) {
        theLender(lender);
        theSecurity(security);
        argument(in(quantity, 1, 99999));
        int[] spares = new int[now.deals.size()];
        for (int k = 0; k < spares.length; k++) {
            Deal d = now.deals.get(k);
            Slice x = d.slices.getOrDefault(lender, new Slice());
            spares[k] = d.security == security ? x.shares - x.recalled : 0;
        }
        element(Arrays.stream(spares).sum() >= quantity);
        return spares;
    }

    private static int sumOf(int[] spares, int set) {
        int sum = 0;
        for (int k = 0; k < spares.length; k++) {
            sum += (set >> k & 1) * spares[k];
        }
        return sum;
    }

    public int fewestLoans(int lender, int security, int quantity) {
        int[] spares = spares(lender, security, quantity);
        int best = 99;
        for (int set = 0; set < 1 << spares.length; set++) {
            if (sumOf(spares, set) >= quantity) {
                best = Math.min(best, Integer.bitCount(set));
            }
        }
        return best;
    }

    public int tightestSum(int lender, int security, int quantity) {
        int[] spares = spares(lender, security, quantity);
        int best = Integer.MAX_VALUE;
        for (int set = 0; set < 1 << spares.length; set++) {
            int sum = sumOf(spares, set);
            best = sum >= quantity ? Math.min(best, sum) : best;
        }
        return best;
    }

    public int tightestLoans(int lender, int security, int quantity) {
        int wanted = tightestSum(lender, security, quantity);
        int[] spares = spares(lender, security, quantity);
        List<Integer> sets = new ArrayList<>();
        for (int set = 0; set < 1 << spares.length; set++) {
            if (sumOf(spares, set) == wanted) {
                sets.add(set);
            }
        }
        return Collections.min(sets, Comparator.comparing((Integer x) -> Integer.bitCount(x)).thenComparing(x -> x));
    }

    public long accountAfter(int days, int kind, int number) {
        argument(in(days, 0, 400));
        String name = accountName(kind, number);
        State later = now.copy();
        passIn(later, days);
        return later.accounts.getOrDefault(name, 0L);
    }

    public int boughtInAfter(int days) {
        argument(in(days, 1, 400));
        return passIn(now.copy(), days);
    }

    public int firstBuyIn() {
        State later = now.copy();
        for (int days = 1; days < 40; days++) {
            if (later.oneDay() > 0) {
                return days;
            }
        }
        throw new NoSuchElementException();
    }

    public int breakingPrice(int borrower, int security) {
        theBorrower(borrower);
        theSecurity(security);
        State copy = now.copy();
        for (int price = 1; price <= 9999; price++) {
            copy.securities.get(security)[0] = price;
            if (copy.exposure(borrower) > copy.borrowers.get(borrower)) {
                return price;
            }
        }
        throw new NoSuchElementException();
    }

    public int bestPolicy(int security, int quantity) {
        theSecurity(security);
        argument(in(quantity, 1, 99999));
        state(now.freeWithout(-1, security) >= quantity);
        int best = -1;
        int least = Integer.MAX_VALUE;
        for (int policy = 0; policy < 3; policy++) {
            Map<Integer, Integer> gives = now.allocate(security, quantity, -1, policy, false);
            List<Integer> after = new ArrayList<>();
            for (int l = 0; l < now.lenders.size(); l++) {
                after.add(now.lent(l, security) + gives.getOrDefault(l, 0));
            }
            int spread = Collections.max(after) - Collections.min(after);
            if (spread < least) {
                least = spread;
                best = policy;
            }
        }
        return best;
    }

    public int rankedLender(int security, int place) {
        theSecurity(security);
        theLender(place);
        return now.byUse(security).get(place);
    }

    public int richestLender() {
        element(!now.lenders.isEmpty());
        int best = 0;
        for (int l = 1; l < now.lenders.size(); l++) {
            best = account(0, l) > account(0, best) ? l : best;
        }
        return best;
    }

    public int lastServed(int security) {
        theSecurity(security);
        return now.served.getOrDefault(security, -1);
    }

    public long total(int what) {
        argument(in(what, 0, 5));
        long recalled = 0;
        long value = 0;
        for (Deal d : now.deals) {
            recalled += loan(d.number, 5);
            value += (long) d.quantity() * now.securities.get(d.security)[0];
        }
        long rich = 0;
        for (int l = 0; l < now.lenders.size(); l++) {
            rich += account(0, l);
        }
        return new long[] {now.fees, now.bought, now.replaced, recalled, value, rich}[what];
    }

    public int writeReport() {
        StringBuilder r = new StringBuilder("day " + now.day + " loans " + now.deals.size() + "\n");
        for (Deal d : now.deals) {
            r.append("loan " + d.number + " of " + d.quantity());
            d.slices.forEach((l, x) -> r.append(" " + l + ":" + x.shares + (x.recalled > 0 ? "-" + x.recalled : "")));
            r.append("\n");
        }
        report = r.toString();
        return report.length();
    }

    public int reportByte(int index) {
        index(in(index, 0, report.length() - 1));
        return report.charAt(index);
    }

    public int undo() {
        state(!past.isEmpty());
        now = past.removeLast();
        return past.size();
    }

    public int undoDepth() {
        return past.size();
    }
}
