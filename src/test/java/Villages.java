/** Villages to ask: the same ones, however often they are made. */
final class Villages {
    private Villages() {
    }

    /** One with TUNES of these LENGTHS. */
    static FiddlerDebts of(int... lengths) {
        FiddlerDebts x = new FiddlerDebts();
        for (int length : lengths) {
            x.tune(length);
        }
        return x;
    }

    /** Reads a LAW and puts it in FORCE: its number. */
    static int force(FiddlerDebts x, String text) {
        int law = Tapes.law(x, text);
        if (law < 0) {
            throw new IllegalArgumentException(text);
        }
        x.force(law);
        return law;
    }

    /** DEBTS as rows of OWER, CREDITOR, TUNE, HALVES. */
    static void owe(FiddlerDebts x, int[]... debts) {
        for (int[] d : debts) {
            x.owe(d[0], d[1], d[2], d[3]);
        }
    }

    /** Some of all there can be and room for more; also IMAGES, and a DEBT that came since. */
    static FiddlerDebts halfFull() {
        FiddlerDebts x = new FiddlerDebts();
        fillHalf(x);
        x.image(0);
        x.pay(0, 1);
        x.image(1);
        x.owe(0, 1, 0, 1);
        Tapes.put(x, "worth 7 ?;");
        return x;
    }

    /** As much of all as there can be, but for IMAGES. */
    static FiddlerDebts full() {
        FiddlerDebts x = new FiddlerDebts();
        fill(x);
        return x;
    }

    /** Each TUNE has a RING, each DANCER owes, no HOST is without OWERS. */
    static void fillHalf(FiddlerDebts x) {
        x.tune(2);
        x.tune(30);
        x.tune(1);
        x.terms(0, 5);
        for (int d = 0; d < 8; d++) {
            x.owe(d, (d + 1) % 8, 0, 9 - d);
        }
        owe(x, new int[] {0, 7, 1, 2}, new int[] {7, 0, 1, 1}, new int[] {3, 4, 2, 9}, new int[] {4, 3, 2, 9});
        Tapes.law(x, "bars");
        force(x, "worth length+age; voids if ower=creditor");
        x.wedding(1, 18);
        x.wedding(7, 240);
        x.wedding(0, 0);
        for (int d = 0; d < 4; d++) {
            x.dance(2 * d, d % 3);
        }
        x.ahead(0, 2);
        x.ahead(2, 3);
        x.terms(0, 6);
        x.evenings(7, 2);
    }

    static void fill(FiddlerDebts x) {
        for (int length : new int[] {1, 2, 3, 4, 5, 30}) {
            x.tune(length);
        }
        x.terms(0, 999);
        for (int d = 0; d < 16; d++) {
            x.owe(d % 8, (d + 1) % 8, d % 5, 9);
        }
        for (int law = 0; law < 6; law++) {
            Tapes.law(x, law == 5 ? "worth ower" : "bars");
        }
        x.force(5);
        for (int i = 0; i < 8; i++) {
            x.wedding(i, 240);
        }
        for (int i = 0; i < 10; i++) {
            x.dance(i % 8, i % 6);
        }
        for (int i = 0; i < 12; i++) {
            x.ahead(i % 9, 9);
        }
        for (int i = 0; i < 20; i++) {
            x.feed(i, i, i, i, i);
        }
    }
}
