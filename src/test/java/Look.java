/** What a pool tells of itself, written down so that two pools can be compared. A look costs far fewer than 512 calls. */
final class Look {
    private Look() {
    }

    /** The state that a change can touch and that undo restores. */
    static String state(LendingPool x) {
        StringBuilder text = new StringBuilder("counts");
        int[] counts = new int[9];
        for (int what = 0; what <= 8; what++) {
            counts[what] = x.count(what);
            text.append(' ').append(counts[what]);
        }
        text.append("\ntotals");
        for (int what = 0; what <= 5; what++) {
            text.append(' ').append(x.total(what));
        }
        text.append("\naccounts ").append(Check.accounts(x)).append("\nborrowers");
        for (int b = 0; b < counts[2]; b++) {
            text.append(' ').append(x.credit(b)).append('/').append(x.exposure(b));
        }
        text.append("\nlenders");
        for (int l = 0; l < counts[1]; l++) {
            text.append(' ').append(x.lender(l, 0)).append('/').append(x.lender(l, 1)).append('/').append(x.lender(l, 2));
        }
        for (int s = 0; s < counts[0]; s++) {
            putSecurity(x, s, counts[1], text);
        }
        for (int i = 0; i < counts[3]; i++) {
            putLoan(x, x.openLoan(i), counts[1], text);
        }
        return text.append('\n').toString();
    }

    private static void putSecurity(LendingPool x, int s, int lenders, StringBuilder text) {
        text.append("\nsecurity ").append(x.security(s, 0)).append(' ').append(x.security(s, 1));
        text.append(" last ").append(x.lastServed(s)).append(" pooled ").append(x.pooled(s)).append(" held");
        for (int l = 0; l < lenders; l++) {
            text.append(' ').append(x.holding(l, s)).append('/').append(x.onLoan(l, s));
        }
    }

    private static void putLoan(LendingPool x, int loan, int lenders, StringBuilder text) {
        text.append("\nloan ").append(loan);
        for (int what = 0; what <= 4; what++) {
            text.append(' ').append(x.loan(loan, what));
        }
        for (int l = 0; l < lenders; l++) {
            int shares = x.slice(loan, l, 0);
            if (shares != 0) {
                text.append(' ').append(l).append(':').append(shares).append('-').append(x.slice(loan, l, 1));
                text.append('@').append(x.slice(loan, l, 2));
            }
        }
    }

    /** The report as it stands: it is not written anew. */
    static String report(LendingPool x) {
        StringBuilder text = new StringBuilder();
        try {
            for (int i = 0; i < 100; i++) {
                text.append((char) x.reportByte(i));
            }
        } catch (IndexOutOfBoundsException e) {
            text.append("(end)");
        }
        return text.toString();
    }

    /** Everything, the past and the text buffer too; the pool is used up by it. */
    static String all(LendingPool x) {
        StringBuilder text = new StringBuilder(state(x)).append(report(x));
        text.append("\nerror ").append(x.errorCode()).append(' ').append(x.errorPosition());
        int depth = x.undoDepth();
        text.append("\ndepth ").append(depth);
        for (int i = 0; i < depth; i++) {
            text.append("\nundo ").append(x.undo()).append(", loans ").append(x.count(3)).append(" of ").append(x.count(4));
            text.append(", day ").append(x.count(5)).append(", policy ").append(x.count(6));
            text.append(", value ").append(x.total(4)).append(", market ").append(x.account(4, 0));
        }
        text.append("\nbuffer ").append(x.parsePool()).append(' ').append(x.errorCode()).append(' ').append(x.errorPosition());
        return text.toString();
    }
}
