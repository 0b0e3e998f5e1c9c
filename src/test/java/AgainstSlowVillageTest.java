/** Drawn runs of calls: FiddlerDebts must answer as SlowVillage does, and never throw. */
public final class AgainstSlowVillageTest {
    private static final int RUNS = 700;
    private static final int CALLS = 500;
    private static final String[] NAMES = {
        "tune", "length", "owe", "of", "pay", "funeral", "terms", "feed", "end", "row", "sung", "law", "fault",
        "force", "balance", "richest", "net", "left", "ring", "cancel", "best", "play", "bands", "wedding", "divorce",
        "free", "dance", "ahead", "forget", "orders", "can", "evenings", "owed", "image", "back", "count", "status"
    };
    /** How often each of these is drawn, in the order of the names. */
    private static final int[] WEIGHTS = {
        10, 3, 40, 20, 8, 2, 8, 3, 3, 6, 2, 4, 4,
        12, 8, 5, 8, 15, 12, 8, 14, 4, 8, 10, 1,
        10, 14, 14, 1, 12, 6, 6, 8, 3, 3, 20, 5
    };

    private final Check check;
    private final Draws draws;
    private final LawTexts laws;
    private final FiddlerDebts fast = new FiddlerDebts();
    private final SlowVillage slow = new SlowVillage();
    private final int[] times = new int[NAMES.length];
    private int calls = 0;

    private AgainstSlowVillageTest(Check check, Draws draws) {
        this.check = check;
        this.draws = draws;
        this.laws = new LawTexts(draws);
    }

    public static void main(String[] args) {
        Check check = new Check("AgainstSlowVillageTest");
        int runs = args.length > 0 ? Integer.parseInt(args[0]) : RUNS;
        int first = args.length > 1 ? Integer.parseInt(args[1]) : 1;
        for (int run = first; run < first + runs && check.wrong() == 0; run++) {
            check.about("run " + run);
            new AgainstSlowVillageTest(check, new Draws(run)).run();
        }
        check.finish();
    }

    private void run() {
        int all = 0;
        for (int w : WEIGHTS) {
            all += w;
        }
        // Runs in which all is owed to few make rings, feasts and bands that are worth trying.
        int few = draws.once(3) ? draws.from(2, 4) : 8;
        int tunes = draws.from(0, 3);
        for (int i = 0; i < tunes; i++) {
            call(0, few);
        }
        while (calls < CALLS) {
            int drawn = draws.below(all);
            int which = 0;
            while (drawn >= WEIGHTS[which]) {
                drawn -= WEIGHTS[which];
                which++;
            }
            call(which, few);
        }
    }

    private void call(int which, int few) {
        String name = NAMES[which];
        if (name.equals("law") || name.equals("row")) {
            fillTape(name, few);
        }
        int[] a = arguments(name, few);
        int want = Calls.ask(slow, name, a);
        calls++;
        times[which]++;
        StringBuilder told = new StringBuilder("call ").append(calls).append(": ").append(name).append("(");
        for (int i = 0; i < a.length; i++) {
            told.append(i > 0 ? ", " : "").append(a[i]);
        }
        check.due(told.append(")").toString(), want, Calls.ask(fast, name, a));
    }

    private void feed(int[] numbers) {
        check.due("feed", Calls.ask(slow, "feed", numbers), Calls.ask(fast, "feed", numbers));
        calls++;
    }

    private void fillTape(String name, int few) {
        if (draws.once(12)) {
            return;
        }
        int[] bytes = name.equals("law") ? Tapes.bytesOf(laws.text()) : rowOfDebts(few);
        int before = slow.tape.size();
        for (int at = 0; at < bytes.length; at += 20) {
            int[] numbers = new int[5];
            for (int i = 0; i < 5; i++) {
                numbers[i] = Tapes.four(bytes, at + 4 * i);
            }
            feed(numbers);
        }
        int[] n = {before + bytes.length};
        check.due("end", Calls.ask(slow, "end", n), Calls.ask(fast, "end", n));
        calls++;
    }

    private int[] rowOfDebts(int few) {
        int[] bytes = new int[draws.once(3) ? draws.from(1, 40) : 4 * draws.from(1, 8)];
        for (int i = 0; i < bytes.length; i++) {
            int most = i % 4 == 2 ? Math.max(0, slow.s.tunes.size() - 1) : i % 4 == 3 ? 9 : few - 1;
            bytes[i] = draws.once(15) ? draws.below(256) : draws.from(i % 4 == 3 ? 1 : 0, most);
        }
        return bytes;
    }

    private int[] arguments(String name, int few) {
        int dancers = few - 1;
        int tunes = Math.max(0, slow.s.tunes.size() - 1);
        int debts = Math.max(0, slow.s.debts.size() - 1);
        int dances = Math.max(0, slow.s.dances.size() - 1);
        switch (name) {
            case "tune":
                return new int[] {draws.once(2) ? draws.near(1, 4) : draws.near(1, 30)};
            case "length": case "cancel": case "can":
                return new int[] {draws.near(0, tunes)};
            case "owe":
                return new int[] {draws.near(0, dancers), draws.near(0, dancers), draws.near(0, tunes), draws.near(1, 9)};
            case "of":
                return new int[] {draws.near(0, debts), draws.near(0, 7)};
            case "pay":
                return new int[] {draws.near(0, debts), draws.near(1, 4)};
            case "funeral": case "balance": case "free":
                return new int[] {draws.near(0, 7)};
            case "terms":
                return new int[] {draws.near(0, 0), draws.once(2) ? draws.near(0, 12) : draws.near(0, 999)};
            case "feed":
                return new int[] {draws.near(0, 9), draws.near(0, 99), draws.near(0, 9), draws.near(0, 9), draws.near(0, 9)};
            case "end":
                return new int[] {draws.near(0, Math.max(0, slow.tape.size()))};
            case "force":
                return new int[] {draws.near(-1, Math.max(-1, slow.s.laws.size() - 1))};
            case "net":
                return new int[] {draws.near(0, 7), draws.near(0, tunes)};
            case "left":
                return new int[] {draws.near(0, tunes), draws.near(0, 2)};
            case "ring":
                return new int[] {draws.near(0, tunes), draws.near(-1, 3)};
            case "best":
                return new int[] {draws.near(0, dancers), minutes(), draws.near(0, 8), draws.near(0, 3 + debts)};
            case "play":
                return new int[] {draws.near(0, dancers), minutes(), draws.near(0, 8)};
            case "bands": case "owed":
                return new int[] {draws.near(0, dancers), draws.near(0, 1)};
            case "wedding":
                return new int[] {draws.near(0, dancers), minutes()};
            case "dance":
                return new int[] {draws.near(0, 7), draws.near(0, tunes)};
            case "ahead":
                return ahead(dances);
            case "orders":
                return new int[] {draws.near(0, tunes), draws.near(-1, 7)};
            case "evenings":
                return new int[] {draws.near(0, 1000000), draws.near(1, 20)};
            case "image": case "back":
                return new int[] {draws.near(0, 1)};
            case "count":
                return new int[] {draws.near(0, 14)};
            default:
                return new int[0];
        }
    }

    /** Mostly the older one ahead, so that not every run ends in a circle. */
    private int[] ahead(int dances) {
        int a = draws.near(0, dances);
        int b = draws.near(0, dances);
        return draws.once(10) ? new int[] {a, b} : new int[] {Math.min(a, b), Math.max(a, b)};
    }

    private int minutes() {
        return draws.once(2) ? draws.near(0, 40) : draws.near(0, 240);
    }
}
