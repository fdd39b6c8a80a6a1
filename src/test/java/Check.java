import java.util.Objects;

/** Counts what is not as it is due, and ends the test accordingly. */
final class Check {
    interface Call {
        Object answer();
    }

    private int wrong;
    private int checked;

    void due(String what, Object got, Object want) {
        checked++;
        if (!Objects.equals(got, want)) {
            wrong++;
            System.out.println(what + " answered " + got + ", due is " + want);
        }
    }

    /** The very class counts: an exception of the machine is of a class below the one that is due. */
    void refused(String what, Class<? extends RuntimeException> want, Call call) {
        checked++;
        Object got;
        try {
            got = call.answer();
        } catch (RuntimeException e) {
            got = e.getClass();
        }
        if (got != want) {
            wrong++;
            System.out.println(what + " answered " + got + ", due is " + want);
        }
    }

    void index(String what, Call call) {
        refused(what, IndexOutOfBoundsException.class, call);
    }

    void argument(String what, Call call) {
        refused(what, IllegalArgumentException.class, call);
    }

    void state(String what, Call call) {
        refused(what, IllegalStateException.class, call);
    }

    void element(String what, Call call) {
        refused(what, java.util.NoSuchElementException.class, call);
    }

    void end() {
        System.out.println(checked + " answers checked, " + wrong + " wrong");
        if (wrong > 0) {
            System.exit(1);
        }
    }

    /** Puts a text of at most 600 signs into the empty buffer. */
    static void write(LendingPool pool, String text) {
        for (int at = 0; at < text.length(); at += 20) {
            int[] words = new int[5];
            for (int i = 0; i < 20; i++) {
                char sign = at + i < text.length() ? text.charAt(at + i) : ' ';
                words[i / 4] = words[i / 4] << 8 | sign;
            }
            pool.appendText(words[0], words[1], words[2], words[3], words[4]);
        }
        pool.truncateText(text.length());
    }

    static int parse(LendingPool pool, String text) {
        write(pool, text);
        return pool.parsePool();
    }

    static int orders(LendingPool pool, String text) {
        write(pool, text);
        return pool.runOrders();
    }

    static LendingPool pool(String text) {
        LendingPool pool = new LendingPool();
        if (parse(pool, text) == LendingPool.NONE) {
            throw new IllegalArgumentException("a test's pool text is wrong at " + pool.errorPosition());
        }
        return pool;
    }

    static String report(LendingPool pool) {
        StringBuilder text = new StringBuilder();
        int length = pool.writeReport();
        for (int i = 0; i < length; i++) {
            text.append((char) pool.reportByte(i));
        }
        return text.toString();
    }

    /** A long report, of which each of several pools that are alike tells a part, for none may be asked more than 512 times. */
    static String longReport(Make make) {
        StringBuilder text = new StringBuilder();
        int length = make.pool().writeReport();
        for (int from = 0; from < length; from += 400) {
            LendingPool x = make.pool();
            x.writeReport();
            for (int i = from; i < Math.min(length, from + 400); i++) {
                text.append((char) x.reportByte(i));
            }
        }
        return text.toString();
    }

    /** The shares of a loan, lender by lender. */
    static String shares(LendingPool pool, int loan) {
        StringBuilder text = new StringBuilder();
        for (int l = 0; l < pool.count(1); l++) {
            text.append(l == 0 ? "" : " ").append(pool.slice(loan, l, 0));
        }
        return text.toString();
    }

    static String accounts(LendingPool pool) {
        StringBuilder text = new StringBuilder();
        for (int kind = 0; kind < 5; kind++) {
            int size = kind == 0 ? pool.count(1) : kind == 1 ? pool.count(2) : 1;
            for (int i = 0; i < size; i++) {
                text.append(text.length() == 0 ? "" : " ").append(pool.account(kind, i));
            }
        }
        return text.toString();
    }
}
