import java.util.Map;

/** Wild calls on one object, far more than it is promised for: none may throw. */
public final class NeverThrowsTest {
    private static final int OBJECTS = 40;
    private static final int CALLS = 4000;
    private static final Map<String, Integer> ARGUMENTS = Map.of("owe", 4, "feed", 5, "best", 4, "play", 3);
    private static final String[] NAMES = {
        "tune", "length", "owe", "owe", "owe", "of", "pay", "funeral", "terms", "feed", "feed", "end", "row", "sung",
        "law", "fault", "force", "balance", "richest", "net", "left", "ring", "cancel", "best", "play", "bands",
        "wedding", "divorce", "free", "dance", "dance", "ahead", "ahead", "forget", "orders", "can", "evenings",
        "owed", "image", "back", "count", "status"
    };

    private NeverThrowsTest() {
    }

    public static void main(String[] args) {
        Check check = new Check("NeverThrowsTest");
        for (int object = 1; object <= OBJECTS; object++) {
            Draws draws = new Draws(object);
            LawTexts laws = new LawTexts(draws);
            FiddlerDebts x = new FiddlerDebts();
            for (int call = 0; call < CALLS; call++) {
                String name = NAMES[draws.below(NAMES.length)];
                if (name.equals("law") && draws.once(2)) {
                    x.end(0);
                    Tapes.put(x, laws.text());
                }
                check.about("object " + object + ", call " + call + ", " + name);
                check.due("no exception", 1, answers(x, name, arguments(draws, name)) ? 1 : 0);
            }
        }
        check.finish();
    }

    private static int[] arguments(Draws draws, String name) {
        int[] a = new int[Math.max(2, ARGUMENTS.getOrDefault(name, 2))];
        for (int i = 0; i < a.length; i++) {
            a[i] = name.equals("feed") ? draws.below(1 << 30) * 4 + draws.below(4) : draws.near(-1, 9);
        }
        return a;
    }

    private static boolean answers(FiddlerDebts x, String name, int[] a) {
        try {
            Calls.ask(x, name, a);
            return true;
        } catch (RuntimeException thrown) {
            System.out.println(thrown);
            return false;
        }
    }
}
