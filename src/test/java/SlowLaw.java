import java.math.BigInteger;
import java.util.ArrayDeque;
import java.util.ArrayList;
import java.util.Deque;
import java.util.List;
import java.util.Set;
import java.util.function.Function;

/** A LAW by another way: where it faults by a table of what may follow, what it tells by cutting its tokens up. */
final class SlowLaw {
    record Token(String text, int at) {
    }

    record Told(int worth, boolean isVoid, boolean isBarred) {
    }

    private static final class Broken extends RuntimeException {
        private static final long serialVersionUID = 1;
    }

    private enum Where { CLAUSE, HEAD_DONE, OPERAND, SUM_DONE, TEST, TEST_DONE }

    private enum In { WORTH, LEFT, RIGHT }

    private static final Set<String> WORDS = Set.of("ower", "creditor", "tune", "length", "halves", "age", "debts");
    private static final BigInteger BOUND = BigInteger.valueOf(1_000_000_000);

    final int fault;
    private final List<Token> tokens = new ArrayList<>();
    private Function<String, BigInteger> words;

    SlowLaw(List<Integer> bytes) {
        StringBuilder sb = new StringBuilder();
        for (int b : bytes) {
            sb.append((char) b);
        }
        cut(sb.toString());
        fault = faultOf(bytes.size());
    }

    private void cut(String text) {
        int at = 0;
        while (at < text.length()) {
            int end = at + 1;
            String first = text.substring(at, end);
            String kind = first.matches("[a-z]") ? "[a-z]+" : first.matches("[0-9]") ? "[0-9]+" : null;
            while (kind != null && end < text.length() && text.substring(at, end + 1).matches(kind)) {
                end++;
            }
            if (!first.equals(" ")) {
                tokens.add(new Token(text.substring(at, end), at));
            }
            at = end;
        }
    }

    private static boolean isNumber(String t) {
        return t.matches("[0-9]+") && new BigInteger(t).compareTo(BigInteger.valueOf(1000)) <= 0;
    }

    private Where where;
    private In in;
    private final Deque<String> open = new ArrayDeque<>();
    private int clauses;
    private int parts;

    private int faultOf(int length) {
        where = Where.CLAUSE;
        for (Token token : tokens) {
            if (!goesOn(token.text())) {
                return token.at();
            }
        }
        boolean whole = open.isEmpty() && (where == Where.HEAD_DONE || where == Where.TEST_DONE
            || where == Where.SUM_DONE && in != In.LEFT);
        return whole ? -1 : length;
    }

    private boolean goesOn(String t) {
        switch (where) {
            case CLAUSE:
                return clause(t);
            case HEAD_DONE:
                return behindClause(t, true);
            case OPERAND:
                return operand(t);
            case SUM_DONE:
                return behindSum(t);
            case TEST:
                return test(t);
            default:
                return behindTest(t);
        }
    }

    private boolean clause(String t) {
        clauses++;
        where = t.equals("worth") ? Where.OPERAND : Where.HEAD_DONE;
        in = In.WORTH;
        return clauses <= 12 && Set.of("worth", "bars", "voids").contains(t);
    }

    private boolean behindClause(String t, boolean ifToo) {
        if (!open.isEmpty()) {
            return false;
        }
        where = t.equals(";") ? Where.CLAUSE : Where.TEST;
        return t.equals(";") || ifToo && t.equals("if");
    }

    private boolean operand(String t) {
        if (t.equals("[")) {
            open.push(t);
            return open.size() <= 8;
        }
        parts++;
        where = Where.SUM_DONE;
        return parts <= 50 && (isNumber(t) || WORDS.contains(t));
    }

    private boolean behindSum(String t) {
        if (Set.of("+", "-", "*", "/").contains(t)) {
            where = Where.OPERAND;
            return true;
        }
        if ("[".equals(open.peek())) {
            open.pop();
            return t.equals("]");
        }
        switch (in) {
            case WORTH:
                return behindClause(t, true);
            case LEFT:
                where = Where.OPERAND;
                in = In.RIGHT;
                return Set.of("<", ">", "=").contains(t);
            default:
                return behindTest(t);
        }
    }

    private boolean test(String t) {
        if (t.equals("not")) {
            return true;
        }
        if (t.equals("(")) {
            open.push(t);
            return open.size() <= 8;
        }
        in = In.LEFT;
        where = Where.OPERAND;
        return operand(t);
    }

    private boolean behindTest(String t) {
        if (t.equals("and") || t.equals("or")) {
            where = Where.TEST;
            return true;
        }
        if (t.equals(")") && "(".equals(open.peek())) {
            open.pop();
            where = Where.TEST_DONE;
            return true;
        }
        return behindClause(t, false);
    }

    // Asking it.

    Told ask(Told without, Function<String, BigInteger> ofDebt) {
        words = ofDebt;
        Told told = without;
        for (List<String> clause : split(tokens.stream().map(Token::text).toList(), Set.of(";"), false)) {
            told = askClause(clause, told);
        }
        return told;
    }

    private Told askClause(List<String> clause, Told told) {
        int cutAt = clause.indexOf("if");
        List<String> head = cutAt < 0 ? clause : clause.subList(0, cutAt);
        try {
            if (cutAt >= 0 && !so(clause.subList(cutAt + 1, clause.size()))) {
                return told;
            }
            switch (head.get(0)) {
                case "worth":
                    int sum = value(head.subList(1, head.size())).intValueExact();
                    return new Told(sum < 0 ? 0 : sum > 999 ? 999 : sum, told.isVoid(), told.isBarred());
                case "bars":
                    return new Told(told.worth(), told.isVoid(), true);
                default:
                    return new Told(told.worth(), true, told.isBarred());
            }
        } catch (Broken broken) {
            return told;
        }
    }

    /** The parts between the separators that stand outside all brackets; with the separators, if these are kept. */
    private static List<List<String>> split(List<String> tokens, Set<String> separators, boolean keep) {
        List<List<String>> parts = new ArrayList<>();
        List<String> part = new ArrayList<>();
        int depth = 0;
        for (String t : tokens) {
            depth += t.equals("(") || t.equals("[") ? 1 : t.equals(")") || t.equals("]") ? -1 : 0;
            if (depth == 0 && separators.contains(t)) {
                parts.add(part);
                if (keep) {
                    parts.add(List.of(t));
                }
                part = new ArrayList<>();
            } else {
                part.add(t);
            }
        }
        parts.add(part);
        return parts;
    }

    private boolean so(List<String> test) {
        List<List<String>> either = split(test, Set.of("or"), false);
        if (either.size() > 1) {
            for (List<String> one : either) {
                if (so(one)) {
                    return true;
                }
            }
            return false;
        }
        for (List<String> each : split(test, Set.of("and"), false)) {
            if (!plain(each)) {
                return false;
            }
        }
        return true;
    }

    private boolean plain(List<String> test) {
        if (test.get(0).equals("not")) {
            return !plain(test.subList(1, test.size()));
        }
        if (test.get(0).equals("(")) {
            return so(test.subList(1, test.size() - 1));
        }
        List<List<String>> sides = split(test, Set.of("<", ">", "="), true);
        int compared = value(sides.get(0)).compareTo(value(sides.get(2)));
        String sign = sides.get(1).get(0);
        return sign.equals("<") ? compared < 0 : sign.equals(">") ? compared > 0 : compared == 0;
    }

    private BigInteger value(List<String> sum) {
        for (Set<String> signs : List.of(Set.of("+", "-"), Set.of("*", "/"))) {
            List<List<String>> parts = split(sum, signs, true);
            if (parts.size() > 1) {
                BigInteger value = value(parts.get(0));
                for (int i = 1; i < parts.size(); i += 2) {
                    value = joined(parts.get(i).get(0), value, value(parts.get(i + 1)));
                }
                return value;
            }
        }
        String first = sum.get(0);
        if (first.equals("[")) {
            return value(sum.subList(1, sum.size() - 1));
        }
        return WORDS.contains(first) ? words.apply(first) : new BigInteger(first);
    }

    private static BigInteger joined(String sign, BigInteger a, BigInteger b) {
        if (sign.equals("/") && b.signum() == 0) {
            throw new Broken();
        }
        BigInteger value = switch (sign) {
            case "+" -> a.add(b);
            case "-" -> a.subtract(b);
            case "*" -> a.multiply(b);
            default -> a.divide(b);
        };
        if (value.abs().compareTo(BOUND) > 0) {
            throw new Broken();
        }
        return value;
    }
}
