import java.util.Arrays;

/**
 * Each sentence of the document that names a boundary case: too small, too large, empty, full, alike ones, none.
 * (Numbers that can't be stand in RangesTest, refused calls in RefusalsTest, laws in LawsTest.)
 */
public final class EdgesTest {
    private static final Check CHECK = new Check("EdgesTest");
    private static final int NONE = -1;

    private EdgesTest() {
    }

    public static void main(String[] args) {
        room();
        tape();
        worth();
        nets();
        rings();
        feasts();
        bands();
        weddings();
        dances();
        evenings();
        rows();
        images();
        CHECK.finish();
    }

    private static void due(String call, long want, long got) {
        CHECK.due(call, want, got);
    }

    private static int[] n(int... numbers) {
        return numbers;
    }

    /** A village of these LENGTHS in which these DEBTS are owed. */
    private static FiddlerDebts village(int[] lengths, int[]... debts) {
        FiddlerDebts x = Villages.of(lengths);
        Villages.owe(x, debts);
        return x;
    }

    private static void debt(FiddlerDebts x, int debt, int... want) {
        for (int what = 0; what < want.length; what++) {
            due("of(" + debt + ", " + what + ")", want[what], x.of(debt, what));
        }
    }

    // Terms I and II: room.

    private static void room() {
        tunesSixAtMost();
        noDebt();
        debtsSixteenAtMost();
        debtsGoAndThoseBehindMoveUp();
        debtsThatMovedUpAreThereOnce();
        eveningIsZeroAtFirst();
        lawsSixAtMost();
        noLawIsInForceAtFirst();
    }

    private static void tunesSixAtMost() {
        CHECK.about("TUNES 0 .. 5 (6 at most)");
        FiddlerDebts x = Villages.of(30, 1, 30, 1, 30);
        due("the sixth", 5, x.tune(1));
        due("the seventh", -5, x.tune(1));
        due("count(0)", 6, x.count(0));
        due("length(4)", 30, x.length(4));
        due("length(5)", 1, x.length(5));
        due("length(6)", NONE, x.length(6));
        due("owe of the last", 0, x.owe(0, 1, 5, 1));
        due("owe of one behind it", -2, x.owe(0, 1, 6, 1));
    }

    private static void noDebt() {
        CHECK.about("of: NONE of what is not there");
        for (int debt : n(-1, 0, 15, 16)) {
            debt(Villages.of(1), debt, NONE, NONE, NONE, NONE, NONE, NONE, NONE, NONE);
        }
        FiddlerDebts x = Villages.full();
        debt(x, -1, NONE, NONE, NONE, NONE, NONE, NONE, NONE, NONE);
        debt(x, 15, 7, 0, 0, 9, 999, 7, 0, 0);
        debt(x, 16, NONE, NONE, NONE, NONE, NONE, NONE, NONE, NONE);
    }

    private static void debtsSixteenAtMost() {
        CHECK.about("DEBTS 0 .. 15 (16 at most)");
        FiddlerDebts x = Villages.of(1);
        for (int d = 0; d < 15; d++) {
            due("owe", d, x.owe(0, 1, 0, 9));
        }
        due("the sixteenth", 15, x.owe(6, 7, 0, 9));
        due("the seventeenth", -5, x.owe(0, 1, 0, 1));
        Tapes.put(x, 0, 1, 0, 1);
        due("row() of the seventeenth", 0, x.row());
        due("sung()", 1, x.sung());
        due("count(1)", 16, x.count(1));
        due("count(2)", 144, x.count(2));
        debt(x, 15, 6, 7, 0, 9, 0, 1, 0, 0);
        due("pay(0, 8)", 1, x.pay(0, 8));
        due("owe where one half is left", -5, x.owe(0, 1, 0, 1));
        due("pay(0, 1)", 0, x.pay(0, 1));
        due("owe where one went", 15, x.owe(2, 3, 0, 2));
        debt(x, 14, 6, 7, 0, 9);
        debt(x, 15, 2, 3, 0, 2);
        due("owe", -5, x.owe(0, 1, 0, 1));
    }

    private static void debtsGoAndThoseBehindMoveUp() {
        CHECK.about("pay: how many are left (0: it goes, those behind it move up)");
        FiddlerDebts x = village(n(1, 2), n(0, 1, 0, 1));
        x.terms(0, 7);
        x.owe(2, 3, 1, 9);
        x.terms(0, 8);
        x.owe(4, 5, 0, 3);
        due("pay of the last", 0, x.pay(2, 3));
        due("count(1)", 2, x.count(1));
        debt(x, 0, 0, 1, 0, 1, 0, 1, 0, 0);
        debt(x, 1, 2, 3, 1, 9, 7, 2, 0, 0);
        debt(x, 2, NONE, NONE, NONE, NONE, NONE, NONE, NONE, NONE);
        due("pay of the first", 0, x.pay(0, 1));
        debt(x, 0, 2, 3, 1, 9, 7, 2, 0, 0);
        debt(x, 1, NONE, NONE, NONE, NONE, NONE, NONE, NONE, NONE);
        due("all but one half", 1, x.pay(0, 8));
        due("of(0, 3)", 1, x.of(0, 3));
        due("pay of the only one", 0, x.pay(0, 1));
        due("count(1)", 0, x.count(1));
        due("pay of none", -2, x.pay(0, 1));
        CHECK.about("funeral: all DEBTS of a DANCER and to him go");
        x = village(n(1), n(0, 1, 0, 1), n(1, 2, 0, 2), n(2, 0, 0, 4));
        due("of one without debts", 0, x.funeral(3));
        due("of the first and the last", 5, x.funeral(0));
        due("count(1)", 1, x.count(1));
        debt(x, 0, 1, 2, 0, 2);
        due("of all that are left", 2, x.funeral(2));
        due("without debts", 0, x.funeral(2));
        due("owe, the numbers begin anew", 0, x.owe(5, 6, 0, 1));
    }

    /** Where the last one stood behind there is nothing now. */
    private static void debtsThatMovedUpAreThereOnce() {
        CHECK.about("those behind move up, and are there once");
        FiddlerDebts x = village(n(2), n(2, 3, 0, 1), n(0, 1, 0, 4), n(1, 0, 0, 9));
        x.wedding(1, 8);
        x.wedding(0, 18);
        due("pay(0, 1)", 0, x.pay(0, 1));
        due("count(1)", 2, x.count(1));
        due("count(2)", 13, x.count(2));
        due("balance(0)", 10, x.balance(0));
        due("balance(1)", -10, x.balance(1));
        due("net(0, 0)", 5, x.net(0, 0));
        left(x, 0, 13, 5, 1);
        due("free(0)", 0, x.free(0));
        due("free(1)", 1, x.free(1));
        bands(x, 18, 0);
        best(x, 240, 8, 18, 2, 18, 0, 9, NONE);
        due("evenings(1000000, 1), where 4, 2, 4, 5 and 3 dance and 1 can take none", 5, x.evenings(1000000, 1));
        owed(x, 1, 9, 1);
        owed(x, 3, 4, 1);
        Villages.force(x, "worth debts");
        due("of(1, 5), how many he has", 1, x.of(1, 5));
        due("cancel(0)", 4, x.cancel(0));
        due("count(1)", 1, x.count(1));
        due("balance(0)", 5, x.balance(0));
        due("net(1, 0)", -5, x.net(1, 0));
        due("funeral(0)", 5, x.funeral(0));
        due("balance(0), where none is left", 0, x.balance(0));
        left(x, 0, 0, 0, 0);
        ring(x);
        due("free(1)", NONE, x.free(1));
    }

    private static void eveningIsZeroAtFirst() {
        CHECK.about("0 EVENING 0 .. 999 (0 at first)");
        FiddlerDebts x = Villages.of(1);
        x.owe(0, 1, 0, 1);
        due("terms(0, 999), what it was", 0, x.terms(0, 999));
        x.owe(0, 1, 0, 1);
        due("terms(0, 0), what it was", 999, x.terms(0, 0));
        Tapes.put(x, 0, 1, 0, 1);
        x.row();
        due("of(0, 4)", 0, x.of(0, 4));
        due("of(1, 4)", 999, x.of(1, 4));
        due("of(2, 4)", 0, x.of(2, 4));
        CHECK.about("age: EVENING less SINCE (may be below 0)");
        Villages.force(x, "worth 0-age; voids if age=0-999; bars if age=0");
        due("of(0, 5)", 0, x.of(0, 5));
        due("of(1, 5)", 999, x.of(1, 5));
        due("of(1, 6)", 1, x.of(1, 6));
        due("of(2, 7)", 1, x.of(2, 7));
        x.terms(0, 999);
        due("of(1, 6)", 0, x.of(1, 6));
        due("of(1, 7)", 1, x.of(1, 7));
        due("of(0, 7)", 0, x.of(0, 7));
    }

    private static void lawsSixAtMost() {
        CHECK.about("LAWS are TEXTS, 6 at most");
        FiddlerDebts x = village(n(1), n(0, 1, 0, 1));
        for (int law = 0; law < 6; law++) {
            due("law()", law, Tapes.law(x, "worth " + (20 + law)));
        }
        due("the seventh", -5, Tapes.law(x, "worth 7"));
        due("count(3)", 6, x.count(3));
        for (int law = 0; law < 6; law++) {
            x.force(law);
            due("of(0, 5)", 20 + law, x.of(0, 5));
        }
    }

    private static void noLawIsInForceAtFirst() {
        CHECK.about("one is in FORCE (NONE at first: no CLAUSE)");
        FiddlerDebts x = village(n(17), n(0, 1, 0, 3));
        Tapes.law(x, "worth 9; bars; voids");
        due("count(13)", NONE, x.count(13));
        debt(x, 0, 0, 1, 0, 3, 0, 17, 0, 0);
        due("force(0), which was", NONE, x.force(0));
        debt(x, 0, 0, 1, 0, 3, 0, 9, 1, 1);
        due("force(0) once more, which was", 0, x.force(0));
        due("force(NONE), which was", 0, x.force(NONE));
        debt(x, 0, 0, 1, 0, 3, 0, 17, 0, 0);
        due("force(NONE) once more, which was", NONE, x.force(NONE));
    }

    private static void tape() {
        CHECK.about("feed: NONE, if there would be more than 400");
        FiddlerDebts x = Villages.of(1);
        Tapes.put(x, "voids");
        for (int fed = 1; fed <= 19; fed++) {
            due("feed", 5 + 20 * fed, x.feed(0x20202020, 0x20202020, 0x20202020, 0x20202020, 0x20202020));
        }
        due("end(381)", 381, x.end(381));
        due("feed to 401", NONE, x.feed(0, 0, 0, 0, 0));
        due("count(7), where none came", 381, x.count(7));
        due("end(380)", 380, x.end(380));
        due("feed to 400", 400, x.feed(0x20202020, 0x20202020, 0x20202020, 0x20202020, 0x2020203f));
        due("feed to 420", NONE, x.feed(0, 0, 0, 0, 0));
        due("law() of 400 bytes", -6, x.law());
        due("fault() at the last of them", 399, x.fault());
        CHECK.about("end: NONE, if it has not so many, or n is below 0");
        due("end(1) of an empty tape", NONE, x.end(1));
        due("end(0) of an empty tape", 0, x.end(0));
        due("end(-1)", NONE, x.end(-1));
        Tapes.put(x, "bars;voids");
        due("end(11)", NONE, x.end(11));
        due("end(10)", 10, x.end(10));
        due("end(4), its first four alone", 4, x.end(4));
        due("end(5)", NONE, x.end(5));
        due("law()", 0, x.law());
        theFirstBytesAlone();
        CHECK.about("feed: four of each number, the highest first");
        due("feed", 20, x.feed(0x62617273, 0x3be02020, -1, Integer.MIN_VALUE, Integer.MAX_VALUE));
        due("end(6)", 6, x.end(6));
        due("law()", -6, x.law());
        due("fault() at a byte above 127", 5, x.fault());
    }

    /** What once stood behind them is gone, whatever would go on there. */
    private static void theFirstBytesAlone() {
        CHECK.about("end: the TAPE has its first n bytes alone");
        FiddlerDebts x = village(n(1), n(0, 1, 0, 1));
        Tapes.put(x, "barsvoids");
        x.end(4);
        due("law(), where letters stood behind", 0, x.law());
        Tapes.put(x, "worth 123");
        x.end(8);
        due("law(), where a digit stood behind", 1, x.law());
        x.force(1);
        due("of(0, 5)", 12, x.of(0, 5));
        Tapes.put(x, "bars    ");
        x.end(5);
        due("law(), where blanks stood behind", 2, x.law());
        Tapes.put(x, "worth    ");
        x.end(7);
        due("law()", -6, x.law());
        due("fault() at the end", 7, x.fault());
        Tapes.put(x, 0, 1, 0, 1, 2, 3, 0, 1);
        x.end(7);
        due("row(), where the last byte stood behind", 1, x.row());
        due("sung()", 1, x.sung());
    }

    // Term III.

    private static void worth() {
        CHECK.about("BALANCE: (VOID ones aside)");
        FiddlerDebts x = village(n(3), n(0, 7, 0, 9), n(0, 6, 0, 9), n(5, 0, 0, 1));
        Villages.force(x, "voids if ower=0; bars");
        due("balance(0)", 3, x.balance(0));
        due("balance(7)", 0, x.balance(7));
        due("balance(5)", -3, x.balance(5));
        due("richest()", 0, x.richest());
        Villages.force(x, "voids");
        due("balance(0), where all are void", 0, x.balance(0));
        due("richest()", 0, x.richest());
        CHECK.about("BALANCE: the greatest there is");
        x = Villages.of(30);
        for (int d = 0; d < 16; d++) {
            x.owe(0, 7, 0, 9);
        }
        due("balance(7)", 16 * 9 * 30, x.balance(7));
        Villages.force(x, "worth 1000");
        due("balance(7)", 16 * 9 * 999, x.balance(7));
        due("balance(0)", -16 * 9 * 999, x.balance(0));
        due("balance(3)", 0, x.balance(3));
        due("richest()", 7, x.richest());
        Villages.force(x, "worth 0-1");
        due("balance(7), where a half is worth 0", 0, x.balance(7));
        due("richest()", 0, x.richest());
        CHECK.about("RICHEST: the greatest BALANCE, the lowest DANCER");
        due("richest() of none", 0, new FiddlerDebts().richest());
        for (int d = 0; d < 8; d++) {
            due("richest(), whom alone is owed", d, village(n(2), n((d + 3) % 8, d, 0, 1)).richest());
        }
        due("richest() of 0 and 1, 0 the richer", 0, village(n(2), n(2, 0, 0, 5), n(2, 1, 0, 3)).richest());
        due("richest() of 0 and 1, 1 the richer", 1, village(n(2), n(2, 0, 0, 3), n(2, 1, 0, 5)).richest());
        x = village(n(2), n(0, 6, 0, 2), n(1, 7, 0, 2), n(2, 5, 0, 1));
        due("richest() of 6 and 7", 6, x.richest());
        x.owe(2, 5, 0, 1);
        due("richest() of 5, 6 and 7", 5, x.richest());
        x.owe(2, 7, 0, 1);
        due("richest()", 7, x.richest());
    }

    private static void left(FiddlerDebts x, int tune, int all, int least, int payments) {
        due("left(" + tune + ", 0)", all, x.left(tune, 0));
        due("left(" + tune + ", 1)", least, x.left(tune, 1));
        due("left(" + tune + ", 2)", payments, x.left(tune, 2));
    }

    private static void nets() {
        CHECK.about("NET of a TUNE (VOID ones aside)");
        FiddlerDebts x = village(n(3, 4), n(0, 7, 0, 9), n(7, 0, 0, 2), n(7, 1, 0, 1), n(0, 7, 1, 5));
        due("net(0, 0)", -7, x.net(0, 0));
        due("net(7, 0)", 6, x.net(7, 0));
        due("net(7, 1)", 5, x.net(7, 1));
        due("net(6, 0)", 0, x.net(6, 0));
        left(x, 0, 12, 7, 2);
        Villages.force(x, "voids if ower=0; bars");
        due("net(7, 0)", -3, x.net(7, 0));
        due("net(7, 1)", 0, x.net(7, 1));
        left(x, 0, 3, 3, 2);
        left(x, 1, 0, 0, 0);
        CHECK.about("LEFT: all HALVES owed now; the least that leave all NETS as they are");
        left(Villages.of(1), 0, 0, 0, 0);
        left(village(n(1), n(0, 1, 0, 1)), 0, 1, 1, 1);
        left(village(n(1), n(0, 1, 0, 9), n(1, 2, 0, 9), n(2, 0, 0, 9)), 0, 27, 0, 0);
        left(village(n(1), n(0, 1, 0, 9), n(1, 0, 0, 8)), 0, 17, 1, 1);
        left(village(n(1), n(0, 1, 0, 9), n(1, 7, 0, 9)), 0, 18, 9, 1);
        x = Villages.of(1);
        for (int d = 0; d < 16; d++) {
            x.owe(7, 0, 0, 9);
        }
        due("net(0, 0), the greatest", 144, x.net(0, 0));
        due("net(7, 0), the least", -144, x.net(7, 0));
        left(x, 0, 144, 144, 1);
        fewestPayments();
    }

    private static void fewestPayments() {
        CHECK.about("the FEWEST PAYMENTS by which all NETS come to 0");
        FiddlerDebts x = Villages.of(1);
        for (int d = 1; d < 8; d++) {
            x.owe(0, d, 0, 1);
        }
        left(x, 0, 7, 7, 7);
        x = village(n(1), n(0, 1, 0, 1), n(2, 3, 0, 1), n(4, 5, 0, 1), n(6, 7, 0, 1));
        left(x, 0, 4, 4, 4);
        left(village(n(1), n(0, 2, 0, 1), n(1, 2, 0, 1)), 0, 2, 2, 2);
        left(village(n(1), n(2, 0, 0, 1), n(2, 1, 0, 1)), 0, 2, 2, 2);
        // 0 owes 3 and 1 owes 4; 5 is owed 4 and 6 is owed 3: two, though 3 debts are owed.
        x = village(n(1), n(0, 5, 0, 3), n(1, 5, 0, 1), n(1, 6, 0, 3));
        left(x, 0, 7, 7, 2);
        // -1 -2 3 and -4 -4 8, and two pairs that need one each.
        x = village(n(1), n(0, 2, 0, 1), n(1, 2, 0, 2), n(3, 5, 0, 4), n(4, 5, 0, 4), n(6, 7, 0, 9));
        left(x, 0, 20, 20, 5);
        x = village(n(1), n(0, 4, 0, 9), n(1, 5, 0, 8), n(2, 6, 0, 7), n(3, 7, 0, 6), n(0, 7, 0, 2), n(3, 4, 0, 3));
        left(x, 0, 35, 35, 5);
    }

    private static void ring(FiddlerDebts x, int... want) {
        due("ring(0, NONE)", want.length == 0 ? NONE : want.length, x.ring(0, NONE));
        for (int i = 0; i < 9; i++) {
            due("ring(0, " + i + ")", i < want.length ? want[i] : NONE, x.ring(0, i));
        }
    }

    private static void rings() {
        CHECK.about("a RING: each owes the next one that TUNE, the last the first");
        ring(new FiddlerDebts());
        ring(Villages.of(1));
        ring(village(n(1), n(0, 1, 0, 9)));
        ring(village(n(1), n(0, 1, 0, 1), n(1, 2, 0, 1), n(0, 2, 0, 1)));
        ring(village(n(1, 1), n(0, 1, 0, 1), n(1, 0, 1, 1)));
        ring(village(n(1), n(0, 7, 0, 1), n(7, 0, 0, 1)), 0, 7);
        ring(village(n(1), n(7, 6, 0, 1), n(6, 7, 0, 1)), 6, 7);
        ring(village(n(1), n(2, 3, 0, 1), n(3, 1, 0, 1), n(1, 2, 0, 1)), 1, 2, 3);
        ring(village(n(1), n(2, 1, 0, 1), n(3, 2, 0, 1), n(1, 3, 0, 1)), 1, 3, 2);
        // One who owes into the ring, one who is owed out of it.
        ring(village(n(1), n(0, 5, 0, 1), n(5, 6, 0, 1), n(6, 5, 0, 1), n(6, 1, 0, 1)), 5, 6);
        FiddlerDebts x = Villages.of(1);
        for (int d = 0; d < 8; d++) {
            x.owe(d, (d + 3) % 8, 0, 1);
        }
        ring(x, 0, 3, 6, 1, 4, 7, 2, 5);
        x.pay(7, 1);
        ring(x);
        CHECK.about("a RING of what is owed now, whatever was owed before");
        x = village(n(1), n(0, 1, 0, 1), n(1, 0, 0, 1));
        ring(x, 0, 1);
        x.pay(1, 1);
        ring(x);
        Villages.owe(x, n(1, 2, 0, 1), n(2, 0, 0, 1));
        ring(x, 0, 1, 2);
        CHECK.about("a RING: (not VOID)");
        x = village(n(1), n(0, 1, 0, 1), n(1, 0, 0, 2), n(2, 3, 0, 1), n(3, 2, 0, 1));
        Villages.force(x, "bars");
        ring(x, 0, 1);
        Villages.force(x, "voids if halves=2");
        ring(x, 2, 3);
        Villages.force(x, "voids");
        ring(x);
        CHECK.about("a RING: the one of fewest, then the lowest as bits");
        ring(village(n(1), n(0, 1, 0, 1), n(1, 2, 0, 1), n(2, 0, 0, 1), n(6, 7, 0, 1), n(7, 6, 0, 1)), 6, 7);
        ring(village(n(1), n(0, 7, 0, 1), n(7, 0, 0, 1), n(5, 6, 0, 1), n(6, 5, 0, 1)), 5, 6);
        ring(village(n(1), n(0, 7, 0, 1), n(7, 0, 0, 1), n(0, 6, 0, 1), n(6, 0, 0, 1)), 0, 6);
        ring(village(n(1), n(4, 5, 0, 1), n(5, 6, 0, 1), n(6, 4, 0, 1), n(5, 3, 0, 1), n(3, 4, 0, 1)), 3, 4, 5);
        cancels();
    }

    private static void cancels() {
        CHECK.about("it CANCELS, by its least DEBT");
        FiddlerDebts x = village(n(1), n(0, 1, 0, 1), n(1, 0, 0, 1));
        due("cancel(0)", 1, x.cancel(0));
        due("count(1)", 0, x.count(1));
        due("cancel(0), there is none", -3, x.cancel(0));
        for (int least = 0; least < 3; least++) {
            x = Villages.of(1);
            for (int d = 0; d < 3; d++) {
                x.owe(d, (d + 1) % 3, 0, d == least ? 4 : 9);
            }
            due("cancel(0), the least by the debt " + least, 4, x.cancel(0));
            due("count(1)", 2, x.count(1));
            due("count(2)", 10, x.count(2));
        }
        CHECK.about("of each two in it all HALVES between them count together; so many go of the lower DEBTS first");
        x = village(n(1, 1), n(0, 1, 0, 3), n(4, 5, 0, 1), n(0, 1, 1, 7), n(1, 0, 0, 5), n(0, 1, 0, 3), n(1, 2, 0, 6));
        due("cancel(0)", 5, x.cancel(0));
        due("count(1)", 4, x.count(1));
        debt(x, 0, 4, 5, 0, 1);
        debt(x, 1, 0, 1, 1, 7);
        debt(x, 2, 0, 1, 0, 1);
        debt(x, 3, 1, 2, 0, 6);
        x = Villages.of(1);
        for (int d = 0; d < 16; d++) {
            x.owe(6 + d % 2, 7 - d % 2, 0, 9);
        }
        due("cancel(0), the most halves", 72, x.cancel(0));
        due("count(1)", 0, x.count(1));
        CHECK.about("it CANCELS: what is not of the RING stays");
        x = village(n(1), n(3, 0, 0, 1), n(0, 1, 0, 9), n(1, 2, 0, 9), n(2, 3, 0, 9));
        ring(x, 0, 1, 2, 3);
        x.pay(0, 1);
        Villages.owe(x, n(0, 3, 0, 9), n(1, 0, 0, 9), n(0, 2, 0, 9));
        due("cancel(0)", 9, x.cancel(0));
        due("count(1)", 4, x.count(1));
        debt(x, 2, 0, 3, 0, 9);
        debt(x, 3, 0, 2, 0, 9);
        x = village(n(1), n(0, 1, 0, 9), n(0, 1, 0, 1), n(1, 0, 0, 9));
        due("cancel(0), the least being one debt whole", 9, x.cancel(0));
        debt(x, 0, 0, 1, 0, 1);
        due("count(1)", 1, x.count(1));
    }

    private static void best(FiddlerDebts x, int minutes, int barrels, int... want) {
        for (int what = 0; what < want.length; what++) {
            due("best(0, " + minutes + ", " + barrels + ", " + what + ")", want[what], x.best(0, minutes, barrels, what));
        }
    }

    private static void feasts() {
        CHECK.about("OWERS of DEBTS to HOST that are not VOID, not barred");
        best(new FiddlerDebts(), 240, 8, 0, 0, 0, NONE);
        best(village(n(1), n(0, 1, 0, 9)), 240, 8, 0, 0, 0, 0, NONE);
        FiddlerDebts x = village(n(2), n(1, 0, 0, 9), n(2, 0, 0, 8), n(3, 0, 0, 7));
        Villages.force(x, "bars if ower=1; voids if ower=3");
        best(x, 240, 8, 16, 4, 16, 0, 8, 0, NONE);
        Villages.force(x, "bars");
        best(x, 240, 8, 0, 0, 0, 0, 0, 0);
        Villages.force(x, "voids");
        best(x, 240, 8, 0, 0, 0, 0, 0, 0);
        withinMinutes();
        withinBarrels();
        ofAlikeOnes();
        playedOnes();
    }

    private static void withinMinutes() {
        CHECK.about("MINUTES 0 .. 240: each half LENGTH MINUTES, one behind the other");
        FiddlerDebts x = village(n(30, 1), n(1, 0, 0, 9), n(2, 0, 1, 1));
        best(x, 0, 8, 0, 0, 0, 0, 0);
        best(x, 1, 8, 1, 4, 1, 0, 1);
        best(x, 29, 8, 1, 4, 1, 0, 1);
        best(x, 30, 8, 30, 2, 30, 1, 0);
        best(x, 31, 8, 31, 6, 31, 1, 1);
        best(x, 239, 8, 211, 6, 211, 7, 1);
        best(x, 240, 8, 240, 2, 240, 8, 0);
        // The worth of a half has nothing to do with its minutes.
        Villages.force(x, "worth 7 if tune=1; worth 1 if tune=0");
        best(x, 240, 8, 14, 6, 211, 7, 1);
        best(x, 30, 8, 7, 4, 1, 0, 1);
        Villages.force(x, "worth 999");
        best(x, 240, 8, 8 * 999, 2, 240, 8, 0);
    }

    private static void withinBarrels() {
        CHECK.about("as many OWERS as BARRELS at most");
        FiddlerDebts x = Villages.of(5, 4);
        for (int d = 1; d < 8; d++) {
            x.owe(d, 0, 0, 1);
        }
        best(x, 240, 0, 0, 0, 0, 0, 0, 0, 0, 0, 0, 0);
        best(x, 240, 1, 5, 2, 5, 1, 0, 0, 0, 0, 0, 0);
        best(x, 240, 6, 30, 126, 30, 1, 1, 1, 1, 1, 1, 0);
        best(x, 240, 7, 35, 254, 35, 1, 1, 1, 1, 1, 1, 1);
        best(x, 240, 8, 35, 254, 35, 1, 1, 1, 1, 1, 1, 1);
        // One who owes twice needs one barrel.
        x.owe(7, 0, 1, 1);
        best(x, 240, 1, 9, 128, 9, 0, 0, 0, 0, 0, 0, 1, 1);
        best(x, 8, 1, 5, 2, 5, 1, 0, 0, 0, 0, 0, 0, 0);
        best(x, 10, 2, 10, 6, 10, 1, 1, 0, 0, 0, 0, 0, 0);
    }

    private static void ofAlikeOnes() {
        CHECK.about("of alike ones the fewest OWERS");
        FiddlerDebts x = village(n(5), n(1, 0, 0, 1), n(2, 0, 0, 1), n(7, 0, 0, 2));
        best(x, 10, 8, 10, 128, 10, 0, 0, 2);
        best(x, 15, 8, 15, 130, 15, 1, 0, 2);
        // Worth comes first: all seven for one half more.
        x = Villages.of(1);
        for (int d = 1; d < 8; d++) {
            x.owe(d, 0, 0, 1);
        }
        best(x, 6, 8, 6, 126, 6, 1, 1, 1, 1, 1, 1, 0);
        best(x, 7, 8, 7, 254, 7, 1, 1, 1, 1, 1, 1, 1);
        // 6 and 7 are two, though 1, 2 and 3 are far lower as bits.
        x = village(n(7, 4, 5, 3), n(6, 0, 0, 1), n(7, 0, 1, 1), n(1, 0, 2, 1), n(2, 0, 3, 1), n(3, 0, 3, 1));
        best(x, 11, 8, 11, 192, 11, 1, 1, 0, 0, 0);
        CHECK.about("of alike ones, then the lowest as bits");
        best(village(n(5), n(7, 0, 0, 1), n(1, 0, 0, 1), n(2, 0, 0, 1)), 5, 8, 5, 2, 5, 0, 1, 0);
        // The lowest though it takes 240 minutes and the next one 8.
        x = village(n(30, 1), n(1, 7, 1, 8), n(0, 7, 0, 8));
        Villages.force(x, "worth 1");
        due("best(7, 240, 1, 1)", 1, x.best(7, 240, 1, 1));
        due("best(7, 240, 1, 2)", 240, x.best(7, 240, 1, 2));
        due("best(7, 239, 1, 1)", 2, x.best(7, 239, 1, 1));
        due("best(7, 239, 1, 2)", 8, x.best(7, 239, 1, 2));
        // 1 and 3 are 10, 2 and 3 are 12, 3 and 4 are 24, though 4 and 5 stand ahead among the debts.
        x = village(n(5), n(5, 0, 0, 2), n(4, 0, 0, 1), n(3, 0, 0, 2), n(2, 0, 0, 1), n(1, 0, 0, 1));
        best(x, 15, 2, 15, 10, 15, 0, 0, 2, 0, 1);
        Villages.force(x, "bars if ower=1 or ower=2");
        best(x, 15, 2, 15, 24, 15, 0, 1, 2, 0, 0);
        CHECK.about("of alike ones, then the least MINUTES");
        x = village(n(9, 5, 5), n(1, 0, 0, 1), n(1, 0, 1, 1), n(1, 0, 2, 1));
        Villages.force(x, "worth 7");
        best(x, 9, 8, 7, 2, 5, 0, 0, 1);
        best(x, 13, 8, 14, 2, 10, 0, 1, 1);
        best(x, 14, 8, 14, 2, 10, 0, 1, 1);
        Villages.force(x, "worth 0");
        best(x, 240, 8, 0, 0, 0, 0, 0, 0);
        Villages.force(x, "worth 0; worth 1 if tune=2");
        best(x, 240, 8, 1, 2, 5, 0, 0, 1);
        CHECK.about("of alike ones, then the first as a row of HALVES by DEBTS, fewer ahead");
        x = village(n(5), n(1, 0, 0, 9), n(2, 3, 0, 9), n(1, 0, 0, 2), n(1, 0, 0, 9));
        best(x, 45, 8, 45, 2, 45, 0, 0, 0, 9);
        best(x, 50, 8, 50, 2, 50, 0, 0, 1, 9);
        best(x, 60, 8, 60, 2, 60, 1, 0, 2, 9);
        best(x, 100, 8, 100, 2, 100, 9, 0, 2, 9);
        x = village(n(3, 4, 5), n(1, 0, 0, 1), n(1, 0, 1, 2), n(1, 0, 2, 1));
        best(x, 8, 8, 8, 2, 8, 0, 2, 0);
    }

    private static void playedOnes() {
        CHECK.about("BEST is played (DEBTS without HALVES go, those behind move up)");
        FiddlerDebts x = village(n(5), n(1, 0, 0, 1), n(0, 1, 0, 2), n(2, 0, 0, 3), n(3, 0, 0, 4));
        due("play(0, 4, 8), no half fits", 0, x.play(0, 4, 8));
        due("status()", 0, x.status());
        due("play(0, 240, 0)", 0, x.play(0, 240, 0));
        due("play(7, 240, 8), whom none owes", 0, x.play(7, 240, 8));
        due("count(2)", 10, x.count(2));
        due("play(0, 25, 8), 3 alone and 1", 25, x.play(0, 25, 8));
        due("count(1)", 2, x.count(1));
        debt(x, 0, 0, 1, 0, 2);
        debt(x, 1, 2, 0, 0, 3);
        due("play(0, 10, 1)", 10, x.play(0, 10, 1));
        debt(x, 1, 2, 0, 0, 1);
        Villages.force(x, "worth 0");
        due("play(1, 240, 8), where a half is worth 0", 0, x.play(1, 240, 8));
        due("count(2)", 3, x.count(2));
        Villages.force(x, "worth 999");
        due("play(1, 240, 8)", 1998, x.play(1, 240, 8));
        due("play(0, 5, 1), the last half of all", 999, x.play(0, 5, 1));
        due("count(1)", 0, x.count(1));
        due("play(0, 240, 8), where none is left", 0, x.play(0, 240, 8));
    }

    private static void bands(FiddlerDebts x, int minutes, int first) {
        due("bands(0, 0)", minutes, x.bands(0, 0));
        due("bands(0, 1)", first, x.bands(0, 1));
    }

    private static void bands() {
        CHECK.about("TWO BANDS play all DEBTS to a HOST: the least MINUTES; the lowest set of the first band");
        bands(new FiddlerDebts(), 0, 0);
        bands(village(n(30), n(0, 1, 0, 9)), 0, 0);
        bands(village(n(30), n(1, 0, 0, 9)), 270, 0);
        bands(village(n(30), n(1, 0, 0, 9), n(1, 0, 0, 9)), 270, 1);
        bands(village(n(5), n(1, 2, 0, 9), n(1, 0, 0, 9), n(1, 2, 0, 9), n(3, 0, 0, 9)), 45, 2);
        // The longer one first or last: a set that is lower may be either band.
        bands(village(n(1), n(1, 0, 0, 5), n(1, 0, 0, 2), n(1, 0, 0, 2)), 5, 1);
        bands(village(n(1), n(1, 0, 0, 2), n(1, 0, 0, 2), n(1, 0, 0, 5)), 5, 3);
        bands(village(n(1), n(1, 0, 0, 1), n(1, 0, 0, 9)), 9, 1);
        bands(village(n(1), n(1, 0, 0, 1), n(1, 0, 0, 1), n(1, 0, 0, 1)), 2, 1);
        FiddlerDebts x = Villages.of(1);
        for (int d = 0; d < 13; d++) {
            x.owe(1, 2, 0, 9);
        }
        Villages.owe(x, n(1, 0, 0, 1), n(1, 0, 0, 1), n(1, 0, 0, 2));
        bands(x, 2, (1 << 13) + (1 << 14));
        CHECK.about("TWO BANDS: (not VOID; barred ones too)");
        x = village(n(1), n(1, 0, 0, 3), n(2, 0, 0, 4), n(3, 0, 0, 5));
        Villages.force(x, "bars");
        bands(x, 7, 3);
        Villages.force(x, "voids if ower=1; worth 999");
        bands(x, 5, 2);
        Villages.force(x, "voids if ower<3");
        bands(x, 5, 0);
        Villages.force(x, "voids");
        bands(x, 0, 0);
        x = Villages.of(30);
        for (int d = 0; d < 16; d++) {
            x.owe(1, 0, 0, 9 - d / 15);
        }
        CHECK.about("TWO BANDS: the longest there are");
        bands(x, 2160, 255);
    }

    private static void weddings() {
        CHECK.about("WEDDINGS 0 .. 7 (8 at most)");
        FiddlerDebts x = village(n(240 / 8), n(1, 0, 0, 1));
        for (int i = 1; i < 8; i++) {
            due("wedding", i, x.wedding(0, 29));
        }
        due("free(1), seven weddings too short", 100, x.free(1));
        due("the eighth", 8, x.wedding(0, 30));
        due("free(1), by the last there can be", 7, x.free(1));
        due("the ninth", -5, x.wedding(0, 240));
        due("count(4)", 8, x.count(4));
        due("free(1)", 7, x.free(1));
        due("divorce()", 8, x.divorce());
        due("divorce() of none", 0, x.divorce());
        due("free(1), without weddings", 100, x.free(1));
        due("wedding, the first anew", 1, x.wedding(0, 240));
        due("free(1)", 0, x.free(1));
        freeBehindTheFirst();
        freeOfWhatHeMayPlay();
    }

    private static void free(FiddlerDebts x, int want, int[]... weddings) {
        x.divorce();
        StringBuilder told = new StringBuilder("free(1) by");
        for (int[] w : weddings) {
            x.wedding(w[0], w[1]);
            told.append(" ").append(w[0]).append(":").append(w[1]);
        }
        due(told.toString(), want, x.free(1));
    }

    private static void freeBehindTheFirst() {
        CHECK.about("FREE behind the first by which all his DEBTS are played");
        FiddlerDebts x = village(n(10, 3), n(1, 0, 0, 2), n(1, 0, 1, 3), n(1, 2, 1, 1), n(3, 0, 0, 9));
        free(x, 100);
        free(x, 100, n(0, 240));
        free(x, 100, n(2, 240));
        free(x, 1, n(0, 29), n(2, 3));
        free(x, 1, n(2, 3), n(0, 29));
        free(x, 100, n(2, 2), n(0, 29));
        free(x, 100, n(0, 28), n(2, 3));
        free(x, 2, n(0, 28), n(2, 3), n(0, 3), n(0, 240));
        free(x, 2, n(1, 240), n(0, 240), n(2, 240));
        for (int length : n(1, 30)) {
            x = village(n(length), n(1, 0, 0, 8));
            free(x, 1, n(0, 8 * length - 1), n(0, length));
            free(x, 0, n(0, 8 * length), n(0, length));
        }
        x = village(n(10, 3), n(1, 0, 0, 2), n(1, 0, 1, 3), n(1, 2, 1, 1), n(3, 0, 0, 9));
        x.wedding(0, 240);
        x.wedding(2, 240);
        CHECK.about("FREE: (NONE as it is: no DEBTS; 100: never, all WEDDINGS)");
        due("free(0), to whom all is owed", NONE, x.free(0));
        due("free(7)", NONE, x.free(7));
        due("free(3)", 0, x.free(3));
        x.divorce();
        due("free(0), without weddings", NONE, x.free(0));
        due("free(3), without weddings", 100, x.free(3));
        CHECK.about("FREE: lower DEBTS first, those of the next DEBT, too, if one more of this does not fit");
        // Of 26: 10, 10 and then 3, 3; of 19: 10 and then 3, 3, 3; of 9: none of the first, 3, 3, 3.
        free(x, 100, n(0, 26), n(2, 3), n(0, 2));
        free(x, 2, n(0, 26), n(2, 3), n(0, 3));
        free(x, 2, n(0, 19), n(2, 3), n(0, 10));
        free(x, 100, n(0, 19), n(2, 3), n(0, 9));
        free(x, 2, n(0, 9), n(2, 3), n(0, 20));
        free(x, 100, n(0, 9), n(2, 3), n(0, 19));
        // Of 12 the first takes 10, none of the second fits; minutes that are left are gone.
        free(x, 100, n(0, 12), n(0, 12), n(2, 3), n(0, 7), n(0, 2));
        free(x, 4, n(0, 12), n(0, 12), n(2, 3), n(0, 7), n(0, 3));
        free(x, 100, n(0, 0), n(0, 0), n(2, 240));
    }

    private static void freeOfWhatHeMayPlay() {
        CHECK.about("FREE: all his DEBTS (not VOID)");
        FiddlerDebts x = village(n(10), n(1, 0, 0, 1), n(1, 2, 0, 1));
        Villages.force(x, "voids if creditor=2");
        free(x, 100, n(0, 9), n(2, 240));
        free(x, 0, n(0, 10));
        // A void one takes no minutes, though it is the lower one.
        x = village(n(10), n(1, 0, 0, 9), n(1, 0, 0, 1));
        Villages.force(x, "voids if halves=9");
        free(x, 0, n(0, 10));
        Villages.force(x, "voids");
        free(x, NONE, n(0, 10));
        free(x, NONE);
        CHECK.about("its OWER may not play it, if \"bars\" HOLDS");
        Villages.force(x, "bars if halves=9");
        free(x, 100, n(0, 240), n(0, 240));
        Villages.force(x, "bars if ower=0");
        free(x, 0, n(0, 100));
    }

    private static void dances() {
        CHECK.about("DANCES, 10 at most; AHEAD, 12 at most");
        FiddlerDebts x = Villages.of(1, 2);
        for (int d = 0; d < 9; d++) {
            due("dance", d, x.dance(0, 0));
        }
        due("the tenth", 9, x.dance(7, 0));
        due("the eleventh", -5, x.dance(0, 0));
        due("orders(0, NONE), the most there are", 3628800, x.orders(0, NONE));
        due("orders(0, 7)", 362880, x.orders(0, 7));
        due("orders(0, 0)", 9 * 362880, x.orders(0, 0));
        for (int i = 1; i <= 11; i++) {
            due("ahead", i, x.ahead(8, 9));
        }
        due("orders(0, 7), ahead of whom one is told often", 362880, x.orders(0, 7));
        due("orders(0, NONE)", 1814400, x.orders(0, NONE));
        due("the twelfth", 12, x.ahead(9, 0));
        due("the thirteenth", -5, x.ahead(0, 1));
        due("orders(0, NONE)", 604800, x.orders(0, NONE));
        due("orders(0, 7)", 0, x.orders(0, 7));
        due("can(0)", 1, x.can(0));
        due("forget()", 10, x.forget());
        due("can(0), all being forgotten", 0, x.can(0));
        due("forget() of none", 0, x.forget());
        due("count(6)", 0, x.count(6));
        due("dance, the first anew", 0, x.dance(0, 0));
        due("ahead of one that is forgotten", -2, x.ahead(0, 1));
        due("dance", 1, x.dance(1, 0));
        due("orders(0, NONE), what was ahead is forgotten", 2, x.orders(0, NONE));
        due("can(0)", 3, x.can(0));
        ordersOfFew();
        ordersThroughOthers();
    }

    private static void ordersOfFew() {
        CHECK.about("ORDERS of the DANCES of a TUNE: none, one");
        FiddlerDebts x = Villages.of(1, 2);
        due("orders(1, NONE) of no dances", 1, x.orders(1, NONE));
        for (int d = 0; d < 8; d++) {
            due("orders(1, d) of no dances", 0, x.orders(1, d));
        }
        due("can(1) of no dances", 0, x.can(1));
        x.dance(7, 1);
        due("can(1) of one", 128, x.can(1));
        due("orders(1, NONE) of one", 1, x.orders(1, NONE));
        due("orders(1, 7)", 1, x.orders(1, 7));
        due("orders(1, 0)", 0, x.orders(1, 0));
        due("orders(0, NONE) of the other tune", 1, x.orders(0, NONE));
        due("can(0)", 0, x.can(0));
        x.dance(7, 1);
        due("orders(1, NONE) of two of one dancer", 2, x.orders(1, NONE));
        due("orders(1, 7)", 2, x.orders(1, 7));
        x.ahead(1, 0);
        due("orders(1, 7)", 1, x.orders(1, 7));
        x.ahead(0, 1);
        due("orders(1, NONE) where each is ahead of the other", 0, x.orders(1, NONE));
        due("orders(1, 7)", 0, x.orders(1, 7));
        due("can(1)", 0, x.can(1));
        due("orders(0, NONE), which the circle is not about", 1, x.orders(0, NONE));
    }

    private static void ordersThroughOthers() {
        CHECK.about("each is so as AHEAD tells it (also through DANCES of other TUNES)");
        FiddlerDebts x = Villages.of(1, 2);
        x.dance(3, 0);
        for (int d = 0; d < 8; d++) {
            x.dance(5, 1);
        }
        x.dance(4, 0);
        // From the last to the first through eight others, told from the far end.
        for (int d = 0; d < 9; d++) {
            x.ahead(d + 1, d);
        }
        due("orders(0, NONE)", 1, x.orders(0, NONE));
        due("orders(0, 3)", 1, x.orders(0, 3));
        due("orders(0, 4)", 0, x.orders(0, 4));
        due("can(0)", 8, x.can(0));
        due("orders(1, 5)", 1, x.orders(1, 5));
        x.ahead(0, 9);
        due("orders(0, NONE) of a circle", 0, x.orders(0, NONE));
        due("orders(1, NONE)", 0, x.orders(1, NONE));
        due("can(1)", 0, x.can(1));
        x.forget();
        x.dance(3, 0);
        x.dance(5, 1);
        x.dance(4, 0);
        x.ahead(0, 1);
        due("orders(0, NONE), from one to the other tune alone", 2, x.orders(0, NONE));
        x.ahead(2, 1);
        due("orders(0, NONE), both to it", 2, x.orders(0, NONE));
        due("can(0)", 24, x.can(0));
    }

    // Term IV.

    private static void owed(FiddlerDebts x, int dancer, int halves, int others) {
        due("owed(" + dancer + ", 0)", halves, x.owed(dancer, 0));
        due("owed(" + dancer + ", 1)", others, x.owed(dancer, 1));
    }

    private static void evenings() {
        CHECK.about("EVENINGS: (Without TUNES: none.)");
        FiddlerDebts x = new FiddlerDebts();
        owed(x, 0, NONE, NONE);
        due("evenings(0, 1)", 0, x.evenings(0, 1));
        due("status()", 0, x.status());
        owed(x, 0, 0, 0);
        owed(x, 7, 0, 0);
        x.tune(1);
        due("evenings(0, 20) without debts", 0, x.evenings(0, 20));
        owed(x, 3, 0, 0);
        lowestThatIsNotHisOwnNorToHim();
        drawsToTheEdge();
        latestEveningsAreKept();
    }

    /** With the seed 1,000,000 and one tune there dance 4, 2, 4, 5, 3, 1. */
    private static void lowestThatIsNotHisOwnNorToHim() {
        CHECK.about("the lowest DEBT of that TUNE that is not his own, nor to him, is his then");
        FiddlerDebts x = village(n(1), n(0, 4, 0, 7));
        due("evenings, where 4 can't owe himself", 4, x.evenings(1000000, 1));
        owed(x, 0, 0, 0);
        owed(x, 1, 7, 1);
        debt(x, 0, 0, 4, 0, 7);
        x = village(n(1), n(0, 4, 0, 7), n(2, 1, 0, 9));
        due("evenings, where 4 owes the other one once", 5, x.evenings(1000000, 1));
        owed(x, 1, 7, 1);
        owed(x, 4, 9, 1);
        x = village(n(1), n(4, 0, 0, 1), n(1, 0, 0, 2), n(4, 3, 0, 4), n(4, 2, 0, 8));
        // 4 takes the second; 2, 4, 5, 3, 1 the first one after another.
        due("evenings, where the lowest is his own", 6, x.evenings(1000000, 1));
        owed(x, 1, 1, 1);
        owed(x, 4, 14, 3);
        CHECK.about("how many HALVES he owes, to how many others");
        x = village(n(1), n(6, 0, 0, 9), n(7, 6, 0, 9), n(7, 6, 0, 9), n(7, 5, 0, 9), n(7, 0, 0, 9));
        due("evenings", 6, x.evenings(1000000, 1));
        owed(x, 7, 36, 3);
        owed(x, 1, 9, 1);
        owed(x, 6, 0, 0);
    }

    /** From 870345 s becomes 0 by the first DRAW, from 327279 the greatest there is, 1,000,002. */
    private static void drawsToTheEdge() {
        CHECK.about("s becomes (s times 1103 and 12345) modulo 1,000,003");
        FiddlerDebts x = village(n(1), n(5, 6, 0, 1));
        due("evenings, where 0, 1, 1, 6, 1, 0 dance", 3, x.evenings(870345, 1));
        owed(x, 0, 1, 1);
        due("evenings, where 2, 3, 7, 6, 7, 0 dance", 4, x.evenings(327279, 1));
        owed(x, 0, 1, 1);
        for (int seed : new int[] {0, 1, 7, 8, 327279, 870345, 999999, 1000000}) {
            for (int many : new int[] {1, 2, 19, 20}) {
                asSlowly(seed, many);
            }
        }
    }

    private static void asSlowly(int seed, int many) {
        FiddlerDebts fast = new FiddlerDebts();
        SlowVillage slow = new SlowVillage();
        int[][] debts = {n(0, 1, 0, 9), n(1, 2, 1, 8), n(2, 3, 2, 7), n(3, 4, 0, 6), n(4, 5, 1, 5), n(7, 6, 2, 4),
            n(6, 7, 0, 3), n(5, 0, 1, 2)};
        for (Object x : new Object[] {fast, slow}) {
            for (int tune = 0; tune < 3; tune++) {
                Calls.ask(x, "tune", 1);
            }
            for (int[] d : debts) {
                Calls.ask(x, "owe", d);
            }
        }
        due("evenings(" + seed + ", " + many + ")", slow.evenings(seed, many), fast.evenings(seed, many));
        for (int dancer = 0; dancer < 8; dancer++) {
            owed(fast, dancer, slow.owed(dancer, 0), slow.owed(dancer, 1));
        }
    }

    private static void latestEveningsAreKept() {
        CHECK.about("EVENINGS on paper, kept as the latest");
        FiddlerDebts x = village(n(1), n(0, 4, 0, 7));
        x.evenings(1000000, 1);
        due("evenings(1000001, 1)", -1, x.evenings(1000001, 1));
        x.pay(0, 6);
        owed(x, 1, 7, 1);
        x.funeral(0);
        owed(x, 1, 7, 1);
        due("evenings, of what is owed now", 0, x.evenings(1000000, 1));
        owed(x, 1, 0, 0);
        CHECK.about("EVENINGS: VOID and barred DEBTS go, too");
        x = village(n(1), n(0, 4, 0, 7));
        Villages.force(x, "voids; bars");
        due("evenings(1000000, 1)", 4, x.evenings(1000000, 1));
        owed(x, 1, 7, 1);
    }

    private static void rows() {
        CHECK.about("a ROW of DEBTS: one that can't be is SUNG");
        FiddlerDebts x = Villages.of(1, 2);
        int[][] bad = {n(8, 1, 0, 1), n(255, 1, 0, 1), n(0, 8, 0, 1), n(0, 128, 0, 1), n(3, 3, 0, 1), n(0, 1, 2, 1),
            n(0, 1, 255, 1), n(0, 1, 0, 0), n(0, 1, 0, 10), n(0, 1, 0, 255)};
        for (int[] debt : bad) {
            Tapes.put(x, debt);
            due("row()", 0, x.row());
            due("status()", 0, x.status());
            due("sung()", 1, x.sung());
        }
        due("count(1)", 0, x.count(1));
        int[][] good = {n(0, 7, 0, 1), n(7, 0, 1, 9)};
        for (int[] debt : good) {
            Tapes.put(x, debt);
            due("row()", 1, x.row());
            due("sung()", 0, x.sung());
            debt(x, x.count(1) - 1, debt);
        }
        CHECK.about("a ROW of DEBTS: one within which the TAPE ends is SUNG");
        for (int bytes = 1; bytes <= 3; bytes++) {
            Tapes.put(x, Arrays.copyOf(n(0, 1, 1, 1), bytes));
            due("row()", 0, x.row());
            due("sung()", 1, x.sung());
            Tapes.put(x, Arrays.copyOf(n(2, 3, 0, 4, 0, 1, 1, 1), 4 + bytes));
            due("row()", 1, x.row());
            due("sung()", 1, x.sung());
        }
        due("count(1)", 5, x.count(1));
        rowsWithoutRoom();
    }

    private static void rowsWithoutRoom() {
        CHECK.about("a ROW of DEBTS: one for which there is no room is SUNG");
        FiddlerDebts x = Villages.of(1);
        int[] hundred = new int[400];
        for (int i = 0; i < 100; i++) {
            hundred[4 * i + 1] = 1 + i % 7;
            hundred[4 * i + 3] = 1 + i % 9;
        }
        Tapes.put(x, hundred);
        due("row() of 400 bytes", 16, x.row());
        due("sung()", 84, x.sung());
        due("count(7)", 0, x.count(7));
        debt(x, 15, 0, 2, 0, 7);
        CHECK.about("row: -6 the TAPE is empty");
        due("row()", -6, x.row());
        due("sung() in the latest that was not refused", 84, x.sung());
        CHECK.about("sung: (0 ahead of any)");
        x = Villages.of(1);
        due("sung()", 0, x.sung());
        due("row()", -6, x.row());
        due("sung()", 0, x.sung());
    }

    private static void images() {
        CHECK.about("back: -2 it was not kept");
        FiddlerDebts x = new FiddlerDebts();
        due("back(0)", -2, x.back(0));
        due("back(1)", -2, x.back(1));
        due("image(1)", 0, x.image(1));
        due("back(0)", -2, x.back(0));
        due("back(1)", 0, x.back(1));
        CHECK.about("BACK to one all that it keeps is as it was then (IMAGES stay)");
        due("tune(4)", 0, x.tune(4));
        due("image(0)", 0, x.image(0));
        due("owe", 0, x.owe(0, 1, 0, 9));
        for (int time = 0; time < 2; time++) {
            due("back(1), which is empty", 0, x.back(1));
            due("count(0)", 0, x.count(0));
            due("length(0)", NONE, x.length(0));
            due("back(0)", 0, x.back(0));
            due("count(0)", 1, x.count(0));
            due("count(1)", 0, x.count(1));
            due("owe", 0, x.owe(0, 1, 0, 9));
        }
        CHECK.about("image: one that was kept is kept anew");
        due("image(1)", 0, x.image(1));
        due("pay(0, 4)", 5, x.pay(0, 4));
        due("image(1)", 0, x.image(1));
        due("pay(0, 5)", 0, x.pay(0, 5));
        due("back(1)", 0, x.back(1));
        due("of(0, 3)", 5, x.of(0, 3));
        CHECK.about("back to itself at once");
        due("image(0)", 0, x.image(0));
        due("back(0)", 0, x.back(0));
        due("of(0, 3)", 5, x.of(0, 3));
        imagesOfFullAndEmpty();
        imagesOfWhatWasOverwritten();
        whatImagesDoNotKeep();
    }

    private static void imagesOfWhatWasOverwritten() {
        CHECK.about("back: all that it keeps is as it was then, though all was overwritten since");
        FiddlerDebts untouched = new FiddlerDebts();
        Villages.fillHalf(untouched);
        untouched.image(0);
        untouched.image(1);
        FiddlerDebts x = new FiddlerDebts();
        x.image(1);
        Villages.fillHalf(x);
        x.image(0);
        x.back(1);
        Villages.fill(x);
        x.end(0);
        x.back(0);
        x.image(1);
        CHECK.same("the half full one", Portrait.of(untouched), Portrait.of(x));
        untouched = Villages.full();
        untouched.end(0);
        untouched.evenings(7, 2);
        untouched.image(0);
        untouched.image(1);
        x = new FiddlerDebts();
        x.image(0);
        Villages.fill(x);
        x.end(0);
        x.evenings(7, 2);
        x.image(1);
        x.back(0);
        x.tune(17);
        Villages.owe(x, n(4, 2, 0, 1), n(5, 2, 0, 1));
        Villages.force(x, "voids");
        x.wedding(5, 1);
        x.dance(5, 0);
        x.dance(5, 0);
        x.ahead(1, 0);
        x.back(1);
        x.image(0);
        CHECK.same("the full one", Portrait.of(untouched), Portrait.of(x));
    }

    private static void imagesOfFullAndEmpty() {
        CHECK.about("IMAGES of a full village and of an empty one");
        FiddlerDebts x = Villages.full();
        x.end(0);
        x.image(0);
        x.divorce();
        x.forget();
        x.force(NONE);
        x.terms(0, 0);
        for (int dancer = 0; dancer < 8; dancer++) {
            x.funeral(dancer);
        }
        x.image(1);
        x.back(0);
        int[] full = {6, 16, 144, 6, 8, 10, 12, 0};
        for (int what = 0; what < full.length; what++) {
            due("count(" + what + ")", full[what], x.count(what));
        }
        due("count(13)", 5, x.count(13));
        due("count(14)", 999, x.count(14));
        debt(x, 15, 7, 0, 0, 9, 999, 7, 0, 0);
        due("tune(1) without room", -5, x.tune(1));
        due("owe without room", -5, x.owe(0, 1, 0, 1));
        due("law() without room", -5, Tapes.law(x, "bars"));
        due("wedding without room", -5, x.wedding(0, 0));
        due("dance without room", -5, x.dance(0, 0));
        due("ahead without room", -5, x.ahead(0, 1));
        x.back(1);
        int[] empty = {6, 0, 0, 6, 0, 0, 0, 0};
        for (int what = 0; what < empty.length; what++) {
            due("count(" + what + ")", empty[what], x.count(what));
        }
        due("count(13)", NONE, x.count(13));
        due("count(14)", 0, x.count(14));
        due("owe", 0, x.owe(0, 1, 0, 1));
        due("wedding", 1, x.wedding(0, 0));
        due("dance", 0, x.dance(0, 0));
    }

    private static void whatImagesDoNotKeep() {
        CHECK.about("IMAGES keep all but the TAPE, FAULT, SUNG, the latest EVENINGS");
        FiddlerDebts x = village(n(1), n(0, 4, 0, 7));
        x.image(0);
        Tapes.put(x, 0, 1, 0, 0, 0, 1, 0);
        x.row();
        Tapes.law(x, "bars bars");
        x.evenings(1000000, 1);
        Tapes.put(x, "bars");
        x.back(0);
        due("sung()", 2, x.sung());
        due("fault()", 5, x.fault());
        owed(x, 1, 7, 1);
        due("count(7)", 4, x.count(7));
        due("law(), of what is on the tape still", 0, x.law());
        due("fault()", NONE, x.fault());
        x.back(0);
        due("fault()", NONE, x.fault());
        due("count(3)", 0, x.count(3));
    }
}
