import java.util.List;
import java.util.function.Supplier;

/** What each call is REFUSED by, the first reason of more than one, and that nothing comes of a refused call. */
public final class RefusalsTest {
    private static final Check CHECK = new Check("RefusalsTest");
    /** Where count() tells how many calls were REFUSED by -1, -2, (-4,) -3, -5, -6. */
    private static final int[] COUNTED_AT = {-1, 8, 9, 10, -1, 11, 12};

    private record Refusal(String call, int reason, int... numbers) {
    }

    private RefusalsTest() {
    }

    public static void main(String[] args) {
        ask("a new village", FiddlerDebts::new, newVillage());
        ask("a half full village", Villages::halfFull, halfFull());
        ask("a full village", Villages::full, full());
        whatIsNotRefusedButNone();
        aRefusedLawEmptiesTheTape();
        statusIsOfTheLatest();
        refusalsAreCountedThroughImages();
        CHECK.finish();
    }

    private static Refusal no(String call, int reason, int... numbers) {
        return new Refusal(call, reason, numbers);
    }

    private static List<Refusal> newVillage() {
        return List.of(
            no("tune", -1, 0), no("owe", -2, 0, 1, 0, 1), no("owe", -1, 0, 0, 0, 1), no("owe", -1, 0, 1, 0, 0),
            no("pay", -2, 0, 1), no("pay", -1, 0, 0), no("pay", -1, 0, 10), no("pay", -2, 0, 9), no("row", -6),
            no("force", -2, 0), no("cancel", -2, 0), no("dance", -2, 0, 0), no("dance", -1, 8, 0),
            no("ahead", -2, 0, 1), no("ahead", -1, 0, 0), no("back", -2, 0), no("back", -2, 1), no("back", -1, 2),
            no("wedding", -1, 0, 241), no("play", -1, 0, 0, 9), no("evenings", -1, 0, 0), no("image", -1, 2));
    }

    /** There is room for all here, so -5 stands behind none of these. */
    private static List<Refusal> halfFull() {
        return List.of(
            no("tune", -1, 31), no("owe", -1, 8, 1, 0, 1), no("owe", -1, 1, 8, 0, 1), no("owe", -1, 1, 1, 0, 1),
            no("owe", -1, 1, 2, 0, 10), no("owe", -1, 2, 2, 3, 1), no("owe", -1, 1, 2, 3, 0), no("owe", -2, 1, 2, 3, 1),
            no("pay", -1, 0, 9), no("pay", -1, 9, 2), no("pay", -1, 0, 0), no("pay", -1, 13, 10), no("pay", -2, 13, 9),
            no("funeral", -1, 8), no("terms", -1, 1, 0), no("terms", -1, 0, 1000), no("force", -2, 2),
            no("force", -2, -2), no("cancel", -2, 3), no("play", -1, 8, 5, 5), no("play", -1, 0, 241, 5),
            no("play", -1, 0, 5, 9), no("wedding", -1, 8, 5), no("wedding", -1, 0, -1), no("dance", -1, 8, 3),
            no("dance", -2, 7, 3), no("ahead", -1, 4, 4), no("ahead", -2, 4, 0), no("ahead", -2, 0, 4),
            no("evenings", -1, 1000001, 1), no("evenings", -1, 0, 21), no("image", -1, -1), no("back", -1, 2));
    }

    /** Each -5 may have another reason ahead of it; a cancel() of what makes no RING is -3. */
    private static List<Refusal> full() {
        return List.of(
            no("tune", -5, 30), no("tune", -1, 31), no("owe", -5, 0, 1, 5, 9), no("owe", -2, 0, 1, 6, 9),
            no("owe", -1, 0, 0, 6, 9), no("pay", -1, 16, 10), no("pay", -2, 16, 9), no("cancel", -3, 5),
            no("cancel", -2, 6), no("force", -2, 6), no("wedding", -5, 7, 240), no("wedding", -1, 8, 240),
            no("wedding", -1, 7, 241), no("dance", -5, 7, 5), no("dance", -2, 7, 6), no("dance", -1, 8, 6),
            no("ahead", -5, 9, 0), no("ahead", -2, 9, 10), no("ahead", -2, 10, 9), no("ahead", -1, 10, 10),
            no("ahead", -1, 9, 9), no("back", -2, 0), no("evenings", -1, -1, 1));
    }

    private static void ask(String where, Supplier<FiddlerDebts> village, List<Refusal> refusals) {
        List<String> untouched = Portrait.of(village.get());
        for (Refusal r : refusals) {
            FiddlerDebts x = village.get();
            StringBuilder told = new StringBuilder(where).append(", ").append(r.call());
            for (int n : r.numbers()) {
                told.append(' ').append(n);
            }
            CHECK.about(told.toString());
            int[] before = refused(x);
            CHECK.due("answer", r.reason(), Calls.ask(x, r.call(), r.numbers()));
            CHECK.due("status()", r.reason(), x.status());
            int[] after = refused(x);
            for (int reason = 1; reason <= 6; reason++) {
                int more = reason == -r.reason() ? 1 : 0;
                CHECK.due("refused by -" + reason, before[reason] + more, after[reason]);
            }
            CHECK.same("what stands then", untouched, Portrait.of(x));
        }
    }

    private static int[] refused(FiddlerDebts x) {
        int[] many = new int[COUNTED_AT.length];
        for (int reason = 1; reason < many.length; reason++) {
            many[reason] = COUNTED_AT[reason] < 0 ? 0 : x.count(COUNTED_AT[reason]);
        }
        return many;
    }

    /** What only asks, feed, end, divorce and forget are never REFUSED, whatever they answer. */
    private static void whatIsNotRefusedButNone() {
        List<Refusal> nones = List.of(
            no("length", -1, 6), no("of", -1, 16, 0), no("of", -1, 0, 8), no("feed", -1, 0, 0, 0, 0, 0),
            no("end", -1, 401), no("end", -1, -1), no("balance", -1000000000, 8), no("net", -1000000000, 8, 0),
            no("net", -1000000000, 0, 6), no("left", -1, 6, 0), no("left", -1, 0, 3), no("ring", -1, 6, -1),
            no("ring", -1, 5, -1), no("best", -1, 8, 0, 0, 0), no("best", -1, 0, 0, 0, 19), no("bands", -1, 8, 0),
            no("bands", -1, 0, 2), no("free", -1, 8), no("orders", -1, 6, 0), no("orders", -1, 0, 8),
            no("can", -1, 6), no("owed", -1, 0, 0), no("count", -1, 15), no("sung", 0), no("richest", 0));
        List<String> untouched = Portrait.of(Villages.full());
        for (Refusal none : nones) {
            FiddlerDebts x = Villages.full();
            x.cancel(5);
            int[] before = refused(x);
            CHECK.about(none.call() + ", which is not refused");
            CHECK.due("answer", none.reason(), Calls.ask(x, none.call(), none.numbers()));
            CHECK.due("status()", -3, x.status());
            int[] after = refused(x);
            for (int reason = 1; reason <= 6; reason++) {
                CHECK.due("refused by -" + reason, before[reason], after[reason]);
            }
            CHECK.same("what stands then", untouched, Portrait.of(x));
        }
    }

    /** The one refused call of which something comes: the TAPE is empty, the FAULT is told if the TEXT was read. */
    private static void aRefusedLawEmptiesTheTape() {
        CHECK.about("law, refused");
        FiddlerDebts x = Villages.halfFull();
        CHECK.due("law() of a text that can't be", -6, x.law());
        CHECK.due("fault()", 8, x.fault());
        CHECK.due("count(7)", 0, x.count(7));
        CHECK.due("count(3)", 2, x.count(3));
        CHECK.due("law() of no text", -6, x.law());
        CHECK.due("fault()", 0, x.fault());
        CHECK.due("row() of the empty tape", -6, x.row());
        for (int law = 2; law < 6; law++) {
            CHECK.due("law()", law, Tapes.law(x, "voids"));
        }
        Tapes.put(x, "   ?");
        CHECK.due("law() without room", -5, x.law());
        CHECK.due("fault() of the latest that was read", -1, x.fault());
        CHECK.due("count(7)", 0, x.count(7));
        CHECK.due("law() without room, nor a text", -5, x.law());
        CHECK.due("row() of the empty tape", -6, x.row());
        CHECK.due("count(11)", 2, x.count(11));
        CHECK.due("count(12)", 4, x.count(12));
        CHECK.due("count(13)", 1, x.count(13));
    }

    private static void statusIsOfTheLatest() {
        CHECK.about("status, of the latest call");
        FiddlerDebts x = new FiddlerDebts();
        CHECK.due("ahead of any", 0, x.status());
        x.tune(31);
        CHECK.due("behind tune(31)", -1, x.status());
        x.owe(0, 1, 0, 1);
        CHECK.due("behind owe without a tune", -2, x.status());
        x.tune(30);
        CHECK.due("behind tune(30)", 0, x.status());
        x.cancel(0);
        CHECK.due("behind cancel without a ring", -3, x.status());
        x.force(-1);
        CHECK.due("behind force(NONE), which answers NONE", 0, x.status());
        x.law();
        CHECK.due("behind law without a text", -6, x.status());
        x.image(0);
        CHECK.due("behind image(0)", 0, x.status());
        x.back(1);
        CHECK.due("behind back(1)", -2, x.status());
        x.back(0);
        CHECK.due("behind back(0)", 0, x.status());
    }

    private static void refusalsAreCountedThroughImages() {
        CHECK.about("how many were refused, which images do not keep");
        FiddlerDebts x = new FiddlerDebts();
        x.image(0);
        x.tune(0);
        x.back(1);
        x.tune(1);
        x.cancel(0);
        x.row();
        for (int i = 0; i < 6; i++) {
            x.tune(1);
        }
        x.back(0);
        for (int what = 8; what <= 12; what++) {
            CHECK.due("count(" + what + ")", 1, x.count(what));
        }
    }
}
