/**
 * Drawn villages as full as they can be, of which runs of drawn calls make too few:
 * all DEBTS to one HOST, all DANCES seen, all of one TUNE among all DANCERS.
 */
public final class BigVillagesTest {
    private static final Check CHECK = new Check("BigVillagesTest");
    private static final int VILLAGES = 80;
    private static final int NONE = -1;
    /** Of what half is worth how much: the fewer worths there are, the more choices are alike. */
    private static final String[] LAWS = {
        "worth length", "worth 1", "worth 2 if tune<2; worth 3 if tune>1", "worth length/3+1", "worth 999",
        "worth ower", "worth 0; worth 5 if halves>4", "worth 7-length", "worth length*length; bars if ower=3",
        "worth length; voids if halves=9", "worth 10; bars if debts>3", "worth [length+ower]/2"
    };

    private final Draws draws;
    private final FiddlerDebts fast = new FiddlerDebts();
    private final SlowVillage slow = new SlowVillage();

    private BigVillagesTest(Draws draws) {
        this.draws = draws;
    }

    public static void main(String[] args) {
        int villages = args.length > 0 ? Integer.parseInt(args[0]) : VILLAGES;
        for (int village = 1; village <= villages && CHECK.wrong() == 0; village++) {
            CHECK.about("all DEBTS to one HOST, village " + village);
            new BigVillagesTest(new Draws(village)).toOneHost();
            CHECK.about("all DEBTS of one TUNE, village " + village);
            new BigVillagesTest(new Draws(village)).ofOneTune();
            CHECK.about("all DANCES, village " + village);
            new BigVillagesTest(new Draws(village)).allDances();
        }
        CHECK.finish();
    }

    private void both(String call, int... a) {
        StringBuilder told = new StringBuilder(call);
        for (int n : a) {
            told.append(' ').append(n);
        }
        CHECK.due(told.toString(), Calls.ask(slow, call, a), Calls.ask(fast, call, a));
    }

    private void tunes(int many, int longest) {
        for (int tune = 0; tune < many; tune++) {
            both("tune", draws.from(1, longest));
        }
    }

    private void force(String text) {
        int[] bytes = Tapes.bytesOf(text);
        for (int at = 0; at < bytes.length; at += 20) {
            both("feed", Tapes.four(bytes, at), Tapes.four(bytes, at + 4), Tapes.four(bytes, at + 8),
                Tapes.four(bytes, at + 12), Tapes.four(bytes, at + 16));
        }
        both("end", bytes.length);
        both("law");
        both("force", 0);
    }

    private void toOneHost() {
        int tunes = draws.from(1, 6);
        tunes(tunes, draws.once(2) ? 5 : 30);
        int host = draws.below(8);
        int owers = draws.from(1, 7);
        int fewest = draws.once(3) ? 9 : 1;
        for (int debt = 0; debt < 16; debt++) {
            both("owe", (host + draws.from(1, owers)) % 8, host, draws.below(tunes), draws.from(fewest, 9));
        }
        force(LAWS[draws.below(LAWS.length)]);
        both("bands", host, 0);
        both("bands", host, 1);
        for (int time = 0; time < 3; time++) {
            int minutes = draws.once(3) ? 240 : draws.below(241);
            int barrels = draws.below(owers + 2);
            for (int what = 0; what < 19; what++) {
                both("best", host, minutes, barrels, what);
            }
            both("wedding", host, minutes);
        }
        for (int dancer = 0; dancer < 8; dancer++) {
            both("free", dancer);
        }
        both("play", host, draws.below(241), draws.below(owers + 2));
        for (int debt = 0; debt < 16; debt++) {
            both("of", debt, 3);
        }
    }

    private void ofOneTune() {
        tunes(1, 30);
        int few = draws.from(4, 8);
        int fewest = draws.from(1, 9);
        for (int debt = 0; debt < 16; debt++) {
            int ower = draws.below(few);
            both("owe", ower, (ower + draws.from(1, few - 1)) % few, 0, draws.from(fewest, 9));
        }
        for (int time = 0; time < 16; time++) {
            for (int what = 0; what < 3; what++) {
                both("left", 0, what);
            }
            for (int i = NONE; i < 8; i++) {
                both("ring", 0, i);
            }
            both("cancel", 0);
        }
        both("count", 1);
        both("count", 2);
        both("evenings", draws.below(1000001), 20);
        for (int dancer = 0; dancer < 8; dancer++) {
            both("owed", dancer, 0);
            both("owed", dancer, 1);
        }
    }

    private void allDances() {
        int tunes = draws.from(1, 3);
        tunes(tunes, 30);
        int dancers = draws.from(1, 8);
        for (int dance = 0; dance < 10; dance++) {
            both("dance", draws.below(dancers), draws.below(tunes));
        }
        for (int i = 0; i < 12; i++) {
            int first = draws.below(9);
            int later = draws.from(first + 1, 9);
            boolean round = draws.once(60);
            both("ahead", round ? later : first, round ? first : later);
            for (int tune = 0; tune < tunes; tune++) {
                both("orders", tune, draws.from(NONE, 7));
                both("orders", tune, NONE);
                both("can", tune);
            }
        }
    }
}
