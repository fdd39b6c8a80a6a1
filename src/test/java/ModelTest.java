import java.lang.reflect.InvocationTargetException;
import java.lang.reflect.Method;
import java.lang.reflect.Modifier;
import java.util.ArrayList;
import java.util.Comparator;
import java.util.List;
import java.util.Map;
import java.util.Random;

/** Runs of calls drawn from a fixed seed: the class must answer as the literal model does, in every promise. */
public final class ModelTest {
    private static final int RUNS = 400;
    private static final int CALLS = 512;

    private final Random random;
    private final LendingPool real = new LendingPool();
    private final NaivePool model = new NaivePool();
    private final List<String> told = new ArrayList<>();
    private final int scale;
    private int calls;

    private ModelTest(long seed) {
        random = new Random(seed);
        scale = new int[] {8, 60, 3000, 99999}[random.nextInt(4)];
    }

    public static void main(String[] args) {
        int runs = args.length > 0 ? Integer.parseInt(args[0]) : RUNS;
        long first = args.length > 1 ? Long.parseLong(args[1]) : 1;
        for (long seed = first; seed < first + runs; seed++) {
            ModelTest test = new ModelTest(seed);
            if (!test.run()) {
                System.out.println("seed " + seed + ":");
                test.told.forEach(x -> System.out.println("  " + x));
                System.exit(1);
            }
        }
        System.out.println(runs + " runs agree with the model");
    }

    private static List<Method> face() {
        List<Method> all = new ArrayList<>();
        for (Method m : LendingPool.class.getDeclaredMethods()) {
            if (Modifier.isPublic(m.getModifiers())) {
                all.add(m);
            }
        }
        all.sort(Comparator.comparing(Method::getName));
        return all;
    }

    private static final List<Method> FACE = face();
    private static final List<String> OFTEN = List.of("borrow", "borrow", "borrow", "recall", "recall", "passDays",
        "returnShares", "recall", "setPolicy", "setLimit", "buyShares", "sellShares", "setRate", "payDividend", "setPrice");

    private boolean run() {
        boolean good = random.nextInt(20) == 0 || text(poolText(), "parsePool");
        while (good && calls < CALLS) {
            int kind = random.nextInt(200);
            if (kind == 0) {
                good = text(poolText(), "parsePool");
            } else if (kind < 5) {
                good = text(orderText(), "runOrders");
            } else if (kind < 8) {
                good = report();
            } else if (kind < 90) {
                good = call(OFTEN.get(random.nextInt(OFTEN.size())));
            } else {
                String name = FACE.get(random.nextInt(FACE.size())).getName();
                good = name.equals("parsePool") && random.nextInt(10) > 0 || call(name);
            }
        }
        return good;
    }

    private boolean report() {
        boolean good = call("writeReport");
        int length = model.writeReport();
        for (int i = -1; i <= length && good; i++) {
            good = call("reportByte", i);
        }
        return good;
    }

    /** Puts a text into both buffers and has both read it. */
    private boolean text(String text, String reader) {
        boolean good = call("truncateText", 0);
        String cut = text.length() > 600 ? text.substring(0, 600) : text;
        for (int at = 0; at < cut.length() && good; at += 20) {
            int[] words = new int[5];
            for (int i = 0; i < 20; i++) {
                char sign = at + i < cut.length() ? cut.charAt(at + i) : ' ';
                words[i / 4] = words[i / 4] << 8 | sign;
            }
            good = call("appendText", words);
        }
        told.add("text: " + cut.replace("\n", "\\n"));
        good = good && call("truncateText", cut.length()) && call(reader);
        if (reader.equals("parsePool")) {
            good = good && call("errorCode") && call("errorPosition");
        }
        return good;
    }

    private int among(int... choices) {
        return choices[random.nextInt(choices.length)];
    }

    private String poolText() {
        StringBuilder t = new StringBuilder("pool " + among(0, 1, 3, 30) + " " + among(0, 5, 33, 100) + ";");
        int securities = 1 + random.nextInt(4);
        int lenders = 1 + random.nextInt(6);
        int borrowers = 1 + random.nextInt(4);
        for (int i = 0; i < securities; i++) {
            t.append("security " + (1 + random.nextInt(among(9, 9, 300, 9999))) + " " + random.nextInt(among(60, 10000)) + ";");
        }
        for (int i = 0; i < lenders; i++) {
            t.append("lender " + random.nextInt(101) + " " + among(100, 90, 100, 100, 100, random.nextInt(101))
                + " " + random.nextInt(101) + ";");
        }
        for (int i = 0; i < borrowers; i++) {
            t.append("borrower " + among(9999999, 9999999, random.nextInt(10000000), 500) + ";");
        }
        for (int l = 0; l < lenders; l++) {
            for (int s = 0; s < securities; s++) {
                if (random.nextInt(5) > 0) {
                    t.append("holding " + l + " " + s + " " + random.nextInt(scale + 1) + ";");
                }
            }
        }
        for (int i = random.nextInt(40) - 35; i > 0; i--) {
            t.append(List.of("security 9 9;", "lender 9 9 9;", "borrower 9;").get(random.nextInt(3)));
        }
        return spoilt(t.toString(), 4);
    }

    private String orderText() {
        StringBuilder t = new StringBuilder();
        for (int i = random.nextInt(9); i > 0; i--) {
            String word = List.of("borrow", "return", "recall", "pass", "price", "dividend").get(random.nextInt(6));
            t.append(switch (word) {
                case "borrow" -> word + " " + random.nextInt(2) + " " + random.nextInt(2) + " " + (1 + random.nextInt(5)) + " " + random.nextInt(9999);
                case "return" -> word + " " + Math.max(0, loanNumber()) + " " + (1 + random.nextInt(3));
                case "recall" -> word + " " + random.nextInt(3) + " 0 " + (1 + random.nextInt(3));
                case "pass" -> word + " " + (1 + random.nextInt(20));
                case "price" -> word + " " + random.nextInt(2) + " " + (1 + random.nextInt(500));
                default -> word + " " + random.nextInt(2) + " " + (1 + random.nextInt(50));
            });
            t.append(";");
        }
        return spoilt(t.toString(), 3);
    }

    /** Now and then some signs of a text are changed, left out, doubled or put in. */
    private String spoilt(String text, int seldom) {
        StringBuilder t = new StringBuilder(text);
        for (int i = random.nextInt(seldom) == 0 ? 1 + random.nextInt(2) : 0; i > 0; i--) {
            int at = random.nextInt(t.length() + 1);
            if (random.nextInt(3) == 0) {
                at = t.indexOf(";", at) + 1;
            }
            String more = List.of(" ", "\n", "0", "9", "99999999", ";", "x", "A", "\u00e9", "\u0000", "pool 1 1;", "security 1 1;",
                "lender 1 1 1;", "borrower 5;", "pass 1;", ":", "`", "{", "/", "\t").get(random.nextInt(20));
            switch (random.nextInt(5)) {
                case 0 -> t.insert(at, more);
                case 4 -> {
                    int number = Math.max(0, t.indexOf(" ", at));
                    t.insert(number, " " + among(5, 31, 101, 10000, 100000, 10000000));
                }
                case 1 -> t.setLength(at);
                case 2 -> t.replace(at, Math.min(t.length(), at + 1), more);
                default -> t.delete(at, Math.min(t.length(), at + 1 + random.nextInt(4)));
            }
        }
        return t.toString();
    }

    private int quantity() {
        return among(1 + random.nextInt(scale), 1 + random.nextInt(Math.max(1, scale / 4)),
            1 + random.nextInt(Math.max(1, scale / 4)), 1 + random.nextInt(5));
    }

    private int loanNumber() {
        int open = model.count(3);
        return open > 0 && random.nextInt(15) > 0 ? model.openLoan(random.nextInt(open)) : random.nextInt(30) - 2;
    }

    private boolean call(String name) {
        Method m = FACE.stream().filter(x -> x.getName().equals(name)).findFirst().orElseThrow();
        int[] args = new int[m.getParameterCount()];
        for (int i = 0; i < args.length; i++) {
            args[i] = argument(name, i);
        }
        return call(name, args);
    }

    /** One sign for each argument of a method: what kind of number stands there. */
    private static final Map<String, String> KINDS = Map.ofEntries(
        Map.entry("appendText", "zzzzz"), Map.entry("truncateText", "i"), Map.entry("borrow", "bsqr"),
        Map.entry("returnShares", "nw"), Map.entry("recall", "lsw"), Map.entry("passDays", "d"),
        Map.entry("payDividend", "sa"), Map.entry("buyShares", "lsq"), Map.entry("sellShares", "lsq"),
        Map.entry("setPrice", "sp"), Map.entry("setRate", "sr"), Map.entry("setLimit", "lh"),
        Map.entry("setPolicy", "y"), Map.entry("count", "c"), Map.entry("security", "sy"),
        Map.entry("lender", "ly"), Map.entry("credit", "b"), Map.entry("holding", "ls"),
        Map.entry("onLoan", "ls"), Map.entry("available", "ls"), Map.entry("pooled", "s"),
        Map.entry("utilization", "s"), Map.entry("exposure", "b"), Map.entry("account", "kl"),
        Map.entry("openLoan", "i"), Map.entry("loan", "nc"), Map.entry("slice", "nly"),
        Map.entry("dailyFee", "n"), Map.entry("recallable", "ls"), Map.entry("recallOrder", "lsy"),
        Map.entry("returnOrder", "ni"), Map.entry("quote", "sql"), Map.entry("borrowable", "bs"),
        Map.entry("wouldReplace", "lsw"), Map.entry("fewestLoans", "lsw"), Map.entry("tightestSum", "lsw"),
        Map.entry("tightestLoans", "lsw"), Map.entry("accountAfter", "dkl"), Map.entry("boughtInAfter", "d"),
        Map.entry("breakingPrice", "bs"), Map.entry("bestPolicy", "sq"), Map.entry("rankedLender", "sl"),
        Map.entry("lastServed", "s"), Map.entry("total", "i"), Map.entry("reportByte", "i"));

    private int argument(String name, int place) {
        if (random.nextInt(80) == 0) {
            return among(-1, 0, 1, 6, 100, 101, 400, 401, 9999, 10000, 99999, 100000, Integer.MIN_VALUE, Integer.MAX_VALUE);
        }
        switch (KINDS.get(name).charAt(place)) {
            case 's':
                return below(model.count(0));
            case 'l':
                return below(model.count(1));
            case 'b':
                return below(model.count(2));
            case 'n':
                return loanNumber();
            case 'q':
                return quantity();
            case 'w':
                return among(1 + random.nextInt(Math.max(1, scale / 10)), 1 + random.nextInt(Math.max(1, scale / 3)), quantity());
            case 'd':
                return 1 + random.nextInt(among(3, 40));
            case 'r':
                return random.nextInt(among(3, 100, 10000));
            case 'a':
            case 'p':
                return random.nextInt(among(10, 10, 10, 10, 200, 10000));
            case 'h':
                return among(100, 100, random.nextInt(102));
            case 'k':
                return random.nextInt(among(2, 6));
            case 'y':
                return random.nextInt(among(3, 3, 3, 4));
            case 'i':
                return random.nextInt(among(3, 13));
            case 'c':
                return random.nextInt(10);
            default:
                return random.nextInt();
        }
    }

    private int below(int size) {
        return size > 0 && random.nextInt(40) > 0 ? random.nextInt(size) : size;
    }

    /** What an object answers after its last call is free, and so it is not asked. */
    private boolean call(String name, int... args) {
        if (calls == CALLS) {
            return true;
        }
        calls++;
        Object got = answer(real, name, args);
        Object want = answer(model, name, args);
        StringBuilder line = new StringBuilder(name);
        for (int a : args) {
            line.append(' ').append(a);
        }
        told.add(line + " => " + got);
        if (!got.equals(want)) {
            told.add("due is " + want);
            return false;
        }
        return true;
    }

    private static Object answer(Object object, String name, int[] args) {
        Class<?>[] types = new Class<?>[args.length];
        Object[] values = new Object[args.length];
        for (int i = 0; i < args.length; i++) {
            types[i] = int.class;
            values[i] = args[i];
        }
        try {
            return object.getClass().getMethod(name, types).invoke(object, values);
        } catch (InvocationTargetException e) {
            return e.getCause().getClass().getName();
        } catch (ReflectiveOperationException e) {
            throw new AssertionError(e);
        }
    }
}
