import java.util.List;

/** Numbers too small and too large, of each call: the least and the greatest that can be, and what is just beyond. */
public final class RangesTest {
    private static final Check CHECK = new Check("RangesTest");
    private static final int NONE = -1;
    private static final int NOTHING = -1000000000;
    private static final int BAD = -1;
    private static final int NO_SUCH = -2;

    /** The number at this place of the call may be low .. high; for any other the call answers "outside". */
    private record Range(String call, int[] numbers, int at, int low, int high, int outside) {
        int[] with(int n) {
            int[] a = numbers.clone();
            a[at] = n;
            return a;
        }
    }

    private RangesTest() {
    }

    public static void main(String[] args) {
        for (Range range : ofDebts()) {
            ask(range);
        }
        for (Range range : ofTunes()) {
            ask(range);
        }
        for (Range range : ofWeddingsAndDances()) {
            ask(range);
        }
        for (Range range : ofEveningsAndTheRest()) {
            ask(range);
        }
        inAFullVillage();
        CHECK.finish();
    }

    private static int[] n(int... numbers) {
        return numbers;
    }

    /** There are 13 DEBTS, the first of 8 HALVES, 3 TUNES, 2 LAWS. */
    private static List<Range> ofDebts() {
        return List.of(
            new Range("tune", n(5), 0, 1, 30, BAD),
            new Range("owe", n(0, 3, 0, 1), 0, 0, 7, BAD),
            new Range("owe", n(3, 1, 0, 1), 1, 0, 7, BAD),
            new Range("owe", n(3, 1, 0, 1), 2, 0, 2, NO_SUCH),
            new Range("owe", n(3, 1, 0, 1), 3, 1, 9, BAD),
            new Range("of", n(0, 0), 0, 0, 12, NONE),
            new Range("of", n(0, 0), 1, 0, 7, NONE),
            new Range("pay", n(0, 1), 0, 0, 12, NO_SUCH),
            new Range("pay", n(0, 1), 1, 1, 8, BAD),
            new Range("pay", n(10, 1), 1, 1, 9, BAD),
            new Range("pay", n(9, 1), 1, 1, 1, BAD),
            new Range("funeral", n(0), 0, 0, 7, BAD),
            new Range("terms", n(0, 3), 0, 0, 0, BAD),
            new Range("terms", n(0, 3), 1, 0, 999, BAD),
            new Range("end", n(0), 0, 0, 10, NONE),
            new Range("force", n(0), 0, -1, 1, NO_SUCH));
    }

    private static List<Range> ofTunes() {
        return List.of(
            new Range("length", n(0), 0, 0, 2, NONE),
            new Range("balance", n(0), 0, 0, 7, NOTHING),
            new Range("net", n(0, 0), 0, 0, 7, NOTHING),
            new Range("net", n(0, 0), 1, 0, 2, NOTHING),
            new Range("left", n(0, 0), 0, 0, 2, NONE),
            new Range("left", n(0, 0), 1, 0, 2, NONE),
            new Range("ring", n(0, -1), 0, 0, 2, NONE),
            new Range("ring", n(0, 0), 1, -1, 7, NONE),
            new Range("ring", n(2, 0), 1, -1, 1, NONE),
            new Range("cancel", n(0), 0, 0, 2, NO_SUCH),
            new Range("can", n(0), 0, 0, 2, NONE),
            new Range("orders", n(0, -1), 0, 0, 2, NONE),
            new Range("orders", n(0, -1), 1, -1, 7, NONE));
    }

    private static List<Range> ofWeddingsAndDances() {
        return List.of(
            new Range("best", n(1, 9, 1, 0), 0, 0, 7, NONE),
            new Range("best", n(1, 9, 1, 0), 1, 0, 240, NONE),
            new Range("best", n(1, 9, 1, 0), 2, 0, 8, NONE),
            new Range("best", n(1, 9, 1, 0), 3, 0, 15, NONE),
            new Range("play", n(1, 9, 1), 0, 0, 7, BAD),
            new Range("play", n(1, 9, 1), 1, 0, 240, BAD),
            new Range("play", n(1, 9, 1), 2, 0, 8, BAD),
            new Range("bands", n(1, 0), 0, 0, 7, NONE),
            new Range("bands", n(1, 0), 1, 0, 1, NONE),
            new Range("wedding", n(1, 9), 0, 0, 7, BAD),
            new Range("wedding", n(1, 9), 1, 0, 240, BAD),
            new Range("free", n(1), 0, 0, 7, NONE),
            new Range("dance", n(1, 0), 0, 0, 7, BAD),
            new Range("dance", n(1, 0), 1, 0, 2, NO_SUCH),
            new Range("ahead", n(0, 1), 0, 0, 3, NO_SUCH),
            new Range("ahead", n(1, 0), 1, 0, 3, NO_SUCH));
    }

    private static List<Range> ofEveningsAndTheRest() {
        return List.of(
            new Range("evenings", n(5, 2), 0, 0, 1000000, BAD),
            new Range("evenings", n(5, 2), 1, 1, 20, BAD),
            new Range("owed", n(0, 0), 0, 0, 7, NONE),
            new Range("owed", n(0, 0), 1, 0, 1, NONE),
            new Range("image", n(0), 0, 0, 1, BAD),
            new Range("back", n(0), 0, 0, 1, BAD),
            new Range("count", n(0), 0, 0, 14, NONE));
    }

    private static void ask(Range r) {
        CHECK.about(r.call() + ", number " + r.at());
        // What would pass for a number that can be, if it were cut to fewer bits or came round.
        int[] beyond = {r.low() - 1, r.high() + 1, r.low() - 2, r.high() + 2, -r.high() - 1, r.low() + 256,
            r.high() - 256, r.low() + 65536, r.low() + (1 << 24), Integer.MIN_VALUE + r.low(), Integer.MIN_VALUE,
            Integer.MIN_VALUE + 1, Integer.MIN_VALUE + 2, Integer.MIN_VALUE + 3, Integer.MIN_VALUE + 8,
            Integer.MAX_VALUE, Integer.MAX_VALUE - 1, Integer.MAX_VALUE - 2, Integer.MAX_VALUE - 8};
        for (int n : beyond) {
            if (n < r.low() || n > r.high()) {
                CHECK.due("with " + n, r.outside(), Calls.ask(Villages.halfFull(), r.call(), r.with(n)));
            }
        }
        for (int n : new int[] {r.low(), r.high()}) {
            int answer = Calls.ask(Villages.halfFull(), r.call(), r.with(n));
            CHECK.due("with " + n + " is not " + r.outside(), 0, answer == r.outside() ? 1 : 0);
        }
    }

    /** The last of each row where it is as long as it can be, and the one behind it. */
    private static void inAFullVillage() {
        CHECK.about("a full village");
        FiddlerDebts x = Villages.full();
        CHECK.due("length(5)", 30, x.length(5));
        CHECK.due("length(6)", NONE, x.length(6));
        CHECK.due("net(0, 5)", 0, x.net(0, 5));
        CHECK.due("net(0, 6)", NOTHING, x.net(0, 6));
        CHECK.due("left(5, 0)", 0, x.left(5, 0));
        CHECK.due("left(6, 0)", NONE, x.left(6, 0));
        CHECK.due("cancel(5)", -3, x.cancel(5));
        CHECK.due("cancel(6)", NO_SUCH, x.cancel(6));
        CHECK.due("orders(5, -1)", 1, x.orders(5, -1));
        CHECK.due("orders(6, -1)", NONE, x.orders(6, -1));
        CHECK.due("can(5)", 32, x.can(5));
        CHECK.due("can(6)", NONE, x.can(6));
        CHECK.due("of(15, 3)", 9, x.of(15, 3));
        CHECK.due("of(16, 3)", NONE, x.of(16, 3));
        CHECK.due("best(0, 240, 8, 18)", 9, x.best(0, 240, 8, 18));
        CHECK.due("best(0, 240, 8, 19)", NONE, x.best(0, 240, 8, 19));
        CHECK.due("force(6)", NO_SUCH, x.force(6));
        CHECK.due("force(5)", 5, x.force(5));
        CHECK.due("end(401)", NONE, x.end(401));
        CHECK.due("end(400)", 400, x.end(400));
        CHECK.due("pay(16, 9)", NO_SUCH, x.pay(16, 9));
        CHECK.due("pay(15, 9)", 0, x.pay(15, 9));
        CHECK.due("pay(15, 9)", NO_SUCH, x.pay(15, 9));
    }
}
