/** Texts of laws: right ones, and ones in which something was changed. */
final class LawTexts {
    private final Draws draws;

    LawTexts(Draws draws) {
        this.draws = draws;
    }

    String text() {
        int clauses = draws.once(15) ? draws.from(10, 14) : draws.from(1, 4);
        StringBuilder sb = new StringBuilder();
        for (int i = 0; i < clauses; i++) {
            sb.append(i > 0 ? ";" : "").append(blanks()).append(clause(clauses > 6 ? 0 : draws.from(0, 3)));
        }
        if (draws.once(3)) {
            change(sb);
        }
        return sb.length() > 400 ? sb.substring(0, 400) : sb.toString();
    }

    private String blanks() {
        return draws.pick("", " ", " ", "  ");
    }

    private String clause(int depth) {
        String head = draws.pick("worth ", "worth ", "bars ", "voids ");
        String sum = head.equals("worth ") ? sum(depth) : "";
        boolean always = draws.once(head.equals("worth ") ? 2 : 6);
        return head + sum + (always ? "" : " if " + test(depth));
    }

    private String test(int depth) {
        StringBuilder sb = new StringBuilder(plain(depth));
        for (int i = draws.below(3); i > 0; i--) {
            sb.append(draws.pick(" or ", " and ")).append(plain(depth));
        }
        return sb.toString();
    }

    private String plain(int depth) {
        if (draws.once(5)) {
            return "not " + plain(depth);
        }
        if (depth > 0 && draws.once(3)) {
            return "(" + blanks() + test(depth - 1) + ")";
        }
        return sum(depth) + blanks() + draws.pick("<", ">", "=") + blanks() + sum(Math.max(0, depth - 1));
    }

    private String sum(int depth) {
        StringBuilder sb = new StringBuilder(part(depth));
        for (int i = draws.below(3); i > 0; i--) {
            sb.append(blanks()).append(draws.pick("+", "-", "*", "/")).append(blanks()).append(part(depth));
        }
        return sb.toString();
    }

    private String part(int depth) {
        if (depth > 0 && draws.once(4)) {
            return "[" + sum(depth - 1) + "]";
        }
        return draws.once(2)
            ? draws.pick("ower", "creditor", "tune", "length", "halves", "age", "debts")
            : draws.pick("0", "1", "2", "3", "5", "7", "10", "100", "999", "1000", "007", "" + draws.below(1000));
    }

    private void change(StringBuilder sb) {
        for (int i = draws.from(1, 3); i > 0; i--) {
            int at = draws.below(sb.length() + 1);
            if (draws.once(2) && at < sb.length()) {
                sb.delete(at, Math.min(sb.length(), at + draws.from(1, 6)));
            } else {
                sb.insert(at, draws.pick(" ", ";", "(", ")", "[", "]", "<", "not ", " and ", " or ", "if", "1001",
                    "worth ", "voids ", "x", "9", "A", "\u00e9", "\t", " + ", "age", "[[[[[[[[", "(((((((("));
            }
        }
    }
}
