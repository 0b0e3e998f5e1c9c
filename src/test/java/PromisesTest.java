/** The document's promises one by one: ordinary inputs, the edges that it names, wrong inputs. */
public final class PromisesTest {
    private static final Check CHECK = new Check("PromisesTest");
    private static final int NOTHING = -1000000000;

    private PromisesTest() {
    }

    public static void main(String[] args) {
        newObject();
        tunes();
        owing();
        paying();
        funerals();
        terms();
        tape();
        rows();
        laws();
        balances();
        nets();
        rings();
        cancels();
        bests();
        bestsOfLongWeddings();
        bestsOfAlikeOnes();
        plays();
        twoBands();
        weddings();
        free();
        dances();
        orders();
        evenings();
        images();
        imagesOfEachRow();
        counts();
        statuses();
        wildNumbers();
        CHECK.finish();
    }

    private static void due(String call, long want, long got) {
        CHECK.due(call, want, got);
    }

    private static void newObject() {
        CHECK.about("promise 1");
        FiddlerDebts x = new FiddlerDebts();
        for (int what = 0; what <= 12; what++) {
            due("count(" + what + ")", 0, x.count(what));
        }
        due("count(13)", -1, x.count(13));
        due("count(14)", 0, x.count(14));
        due("status()", 0, x.status());
        due("fault()", -1, x.fault());
        due("sung()", 0, x.sung());
        due("owed(0, 0)", -1, x.owed(0, 0));
        due("richest()", 0, x.richest());
        due("balance(7)", 0, x.balance(7));
        due("divorce()", 0, x.divorce());
        due("forget()", 0, x.forget());
    }

    private static void tunes() {
        CHECK.about("promises 2, 3");
        FiddlerDebts x = new FiddlerDebts();
        due("tune(0)", -1, x.tune(0));
        due("tune(31)", -1, x.tune(31));
        due("tune(-5)", -1, x.tune(-5));
        int[] lengths = {1, 30, 7, 7, 29, 2};
        for (int t = 0; t < 6; t++) {
            due("tune", t, x.tune(lengths[t]));
        }
        due("tune(31) once full", -1, x.tune(31));
        due("tune(5) once full", -5, x.tune(5));
        for (int t = 0; t < 6; t++) {
            due("length(" + t + ")", lengths[t], x.length(t));
        }
        due("length(6)", -1, x.length(6));
        due("length(-1)", -1, x.length(-1));
        due("count(0)", 6, x.count(0));
        due("count(8)", 4, x.count(8));
        due("count(11)", 1, x.count(11));
    }

    private static void owing() {
        CHECK.about("promises 4, 5");
        FiddlerDebts x = Villages.of(4, 9);
        x.terms(0, 33);
        due("owe(-1, 1, 0, 1)", -1, x.owe(-1, 1, 0, 1));
        due("owe(8, 1, 0, 1)", -1, x.owe(8, 1, 0, 1));
        due("owe(1, -1, 0, 1)", -1, x.owe(1, -1, 0, 1));
        due("owe(1, 8, 0, 1)", -1, x.owe(1, 8, 0, 1));
        due("owe(3, 3, 0, 1)", -1, x.owe(3, 3, 0, 1));
        due("owe(3, 2, 0, 0)", -1, x.owe(3, 2, 0, 0));
        due("owe(3, 2, 0, 10)", -1, x.owe(3, 2, 0, 10));
        due("owe(3, 3, 5, 1)", -1, x.owe(3, 3, 5, 1));
        due("owe(3, 2, 2, 1)", -2, x.owe(3, 2, 2, 1));
        due("owe(3, 2, -1, 1)", -2, x.owe(3, 2, -1, 1));
        due("owe(7, 0, 1, 9)", 0, x.owe(7, 0, 1, 9));
        x.terms(0, 40);
        due("owe(0, 7, 0, 1)", 1, x.owe(0, 7, 0, 1));
        int[] first = {7, 0, 1, 9, 33, 9, 0, 0};
        int[] second = {0, 7, 0, 1, 40, 4, 0, 0};
        for (int what = 0; what < 8; what++) {
            due("of(0, " + what + ")", first[what], x.of(0, what));
            due("of(1, " + what + ")", second[what], x.of(1, what));
        }
        due("of(0, 8)", -1, x.of(0, 8));
        due("of(0, -1)", -1, x.of(0, -1));
        due("of(2, 0)", -1, x.of(2, 0));
        due("of(-1, 0)", -1, x.of(-1, 0));
        Villages.force(x, "worth 5;voids if ower=0;bars if ower=7");
        due("of(0, 5)", 5, x.of(0, 5));
        due("of(0, 6)", 0, x.of(0, 6));
        due("of(0, 7)", 1, x.of(0, 7));
        due("of(1, 6)", 1, x.of(1, 6));
        due("of(1, 7)", 0, x.of(1, 7));
        for (int d = 2; d < 16; d++) {
            due("owe", d, x.owe(1, 2, 0, 1));
        }
        due("owe(1, 2, 0, 1) once full", -5, x.owe(1, 2, 0, 1));
        due("owe(1, 2, 9, 1) once full", -2, x.owe(1, 2, 9, 1));
    }

    private static void paying() {
        CHECK.about("promise 6");
        FiddlerDebts x = Villages.of(4);
        x.owe(0, 1, 0, 5);
        x.owe(2, 3, 0, 6);
        x.owe(4, 5, 0, 7);
        due("pay(0, 0)", -1, x.pay(0, 0));
        due("pay(9, 0)", -1, x.pay(9, 0));
        due("pay(3, 1)", -2, x.pay(3, 1));
        due("pay(-1, 1)", -2, x.pay(-1, 1));
        due("pay(0, 6)", -1, x.pay(0, 6));
        due("pay(0, MAX)", -1, x.pay(0, Integer.MAX_VALUE));
        due("pay(0, 9)", -1, x.pay(0, 9));
        due("pay(3, 9)", -2, x.pay(3, 9));
        // More than nine can't be, whatever debts there are.
        due("pay(3, 10)", -1, x.pay(3, 10));
        due("pay(-1, 10)", -1, x.pay(-1, 10));
        due("pay(3, 0)", -1, x.pay(3, 0));
        due("count(9)", 3, x.count(9));
        due("pay(1, 2)", 4, x.pay(1, 2));
        due("of(1, 3)", 4, x.of(1, 3));
        due("pay(1, 4)", 0, x.pay(1, 4));
        due("count(1)", 2, x.count(1));
        due("of(0, 3)", 5, x.of(0, 3));
        due("of(1, 0)", 4, x.of(1, 0));
        due("of(1, 1)", 5, x.of(1, 1));
        due("of(1, 3)", 7, x.of(1, 3));
        due("of(2, 3)", -1, x.of(2, 3));
        due("owe(6, 7, 0, 1)", 2, x.owe(6, 7, 0, 1));
    }

    private static void funerals() {
        CHECK.about("promise 7");
        FiddlerDebts x = Villages.of(4);
        x.owe(0, 1, 0, 5);
        x.owe(2, 3, 0, 6);
        x.owe(1, 5, 0, 7);
        x.owe(3, 4, 0, 2);
        Villages.force(x, "voids if ower=0");
        due("funeral(-1)", -1, x.funeral(-1));
        due("funeral(8)", -1, x.funeral(8));
        due("funeral(7)", 0, x.funeral(7));
        due("funeral(1)", 12, x.funeral(1));
        due("count(1)", 2, x.count(1));
        due("of(0, 0)", 2, x.of(0, 0));
        due("of(1, 0)", 3, x.of(1, 0));
        due("of(1, 3)", 2, x.of(1, 3));
        due("funeral(3)", 8, x.funeral(3));
        due("count(2)", 0, x.count(2));
    }

    private static void terms() {
        CHECK.about("promise 8");
        FiddlerDebts x = Villages.of(4);
        due("terms(0, 999)", 0, x.terms(0, 999));
        due("terms(0, 1000)", -1, x.terms(0, 1000));
        due("terms(0, -1)", -1, x.terms(0, -1));
        due("terms(1, 5)", -1, x.terms(1, 5));
        due("terms(-1, 5)", -1, x.terms(-1, 5));
        due("count(14)", 999, x.count(14));
        due("terms(0, 0)", 999, x.terms(0, 0));
        due("terms(0, 0)", 0, x.terms(0, 0));
    }

    private static void tape() {
        CHECK.about("promises 9, 10");
        FiddlerDebts x = Villages.of(4);
        for (int i = 1; i <= 20; i++) {
            due("feed", 20 * i, x.feed(i, -1, 0, i, i));
        }
        due("feed once full", -1, x.feed(0, 0, 0, 0, 0));
        due("count(7)", 400, x.count(7));
        due("end(401)", -1, x.end(401));
        due("end(-1)", -1, x.end(-1));
        due("end(400)", 400, x.end(400));
        due("end(381)", 381, x.end(381));
        due("feed with 381", -1, x.feed(0, 0, 0, 0, 0));
        due("end(382)", -1, x.end(382));
        due("end(380)", 380, x.end(380));
        due("feed with 380", 400, x.feed(0, 0, 0, 0, 0));
        due("end(0)", 0, x.end(0));
        due("end(1)", -1, x.end(1));
        due("status()", 0, x.status());
        due("count(8)", 0, x.count(8));
        // The highest byte of each number comes first.
        due("feed", 20, x.feed(0x07060009, 0x00010001, 0x02030005, 0x04050004, 0x06070003));
        due("row()", 5, x.row());
        int[][] wanted = {{7, 6, 9}, {0, 1, 1}, {2, 3, 5}, {4, 5, 4}, {6, 7, 3}};
        for (int d = 0; d < 5; d++) {
            due("of(d, 0)", wanted[d][0], x.of(d, 0));
            due("of(d, 1)", wanted[d][1], x.of(d, 1));
            due("of(d, 3)", wanted[d][2], x.of(d, 3));
        }
    }

    private static void rows() {
        CHECK.about("promises 11, 12");
        FiddlerDebts x = Villages.of(4, 5);
        due("row()", -6, x.row());
        due("sung()", 0, x.sung());
        x.terms(0, 12);
        Tapes.put(x, 0, 1, 0, 1, 8, 1, 0, 1, 1, 8, 0, 1, 3, 3, 0, 1, 3, 2, 2, 1, 3, 2, 1, 0, 3, 2, 1, 10,
            3, 2, 1, 9, 255, 2, 1, 9, 3, 2, 1);
        due("row()", 2, x.row());
        due("sung()", 8, x.sung());
        due("count(7)", 0, x.count(7));
        due("count(1)", 2, x.count(1));
        due("of(1, 0)", 3, x.of(1, 0));
        due("of(1, 1)", 2, x.of(1, 1));
        due("of(1, 2)", 1, x.of(1, 2));
        due("of(1, 3)", 9, x.of(1, 3));
        due("of(1, 4)", 12, x.of(1, 4));
        due("row()", -6, x.row());
        due("status()", -6, x.status());
        due("sung()", 8, x.sung());
        Tapes.put(x, 0);
        due("row()", 0, x.row());
        due("status()", 0, x.status());
        due("sung()", 1, x.sung());
        int[] many = new int[4 * 20];
        for (int i = 0; i < 20; i++) {
            many[4 * i + 1] = 1;
            many[4 * i + 3] = 1 + i % 9;
        }
        Tapes.put(x, many);
        due("row() with room for 14", 14, x.row());
        due("sung()", 6, x.sung());
        due("count(1)", 16, x.count(1));
        due("of(15, 3)", 5, x.of(15, 3));
    }

    private static void laws() {
        CHECK.about("promises 13, 14, 15");
        FiddlerDebts x = Villages.of(4);
        x.owe(0, 1, 0, 3);
        due("law()", -6, x.law());
        due("fault()", 0, x.fault());
        for (int i = 0; i < 6; i++) {
            due("law()", i, Tapes.law(x, "worth " + (i + 10)));
            due("fault()", -1, x.fault());
            due("law()", -6 - (i == 5 ? -1 : 0), Tapes.law(x, "worth 1 1"));
            due("fault()", i == 5 ? -1 : 8, x.fault());
            due("count(7)", 0, x.count(7));
        }
        due("count(3)", 6, x.count(3));
        due("count(11)", 1, x.count(11));
        due("of(0, 5)", 4, x.of(0, 5));
        due("force(6)", -2, x.force(6));
        due("force(-2)", -2, x.force(-2));
        due("force(3)", -1, x.force(3));
        due("count(13)", 3, x.count(13));
        due("of(0, 5)", 13, x.of(0, 5));
        due("force(0)", 3, x.force(0));
        due("of(0, 5)", 10, x.of(0, 5));
        due("force(-1)", 0, x.force(-1));
        due("of(0, 5)", 4, x.of(0, 5));
        due("force(-1)", -1, x.force(-1));
        due("status()", 0, x.status());
    }

    private static void balances() {
        CHECK.about("promises 16, 17");
        FiddlerDebts x = Villages.of(3, 10);
        x.owe(0, 6, 0, 4);
        x.owe(0, 5, 1, 2);
        x.owe(5, 6, 1, 1);
        due("balance(0)", -32, x.balance(0));
        due("balance(5)", 10, x.balance(5));
        due("balance(6)", 22, x.balance(6));
        due("balance(7)", 0, x.balance(7));
        due("balance(8)", NOTHING, x.balance(8));
        due("balance(-1)", NOTHING, x.balance(-1));
        due("richest()", 6, x.richest());
        Villages.force(x, "voids if creditor=6;bars");
        due("balance(6)", 0, x.balance(6));
        due("balance(5)", 20, x.balance(5));
        due("richest()", 5, x.richest());
        Villages.force(x, "worth 999");
        due("balance(0)", -5994, x.balance(0));
        due("balance(6)", 4995, x.balance(6));
        Villages.force(x, "worth 5 if tune=0;worth 10 if ower=0 and creditor=5;worth 0 if ower=5");
        due("balance(6)", 20, x.balance(6));
        due("balance(5)", 20, x.balance(5));
        due("richest() of two alike", 5, x.richest());
    }

    private static void nets() {
        CHECK.about("promises 18, 19");
        FiddlerDebts x = Villages.of(3, 10);
        int[][] debts = {{0, 1, 5}, {1, 2, 5}, {3, 4, 2}, {4, 3, 2}, {5, 6, 3}, {7, 6, 1}};
        for (int[] d : debts) {
            x.owe(d[0], d[1], 0, d[2]);
        }
        x.owe(6, 0, 1, 9);
        int[] nets = {-5, 0, 5, 0, 0, -3, 4, -1};
        for (int d = 0; d < 8; d++) {
            due("net(" + d + ", 0)", nets[d], x.net(d, 0));
        }
        due("net(0, 1)", 9, x.net(0, 1));
        due("net(8, 0)", NOTHING, x.net(8, 0));
        due("net(-1, 0)", NOTHING, x.net(-1, 0));
        due("net(0, 2)", NOTHING, x.net(0, 2));
        due("net(0, -1)", NOTHING, x.net(0, -1));
        due("left(0, 0)", 18, x.left(0, 0));
        due("left(0, 1)", 9, x.left(0, 1));
        due("left(0, 2)", 3, x.left(0, 2));
        due("left(0, 3)", -1, x.left(0, 3));
        due("left(0, -1)", -1, x.left(0, -1));
        due("left(2, 0)", -1, x.left(2, 0));
        due("left(-1, 0)", -1, x.left(-1, 0));
        Villages.force(x, "voids if ower=7;bars");
        due("net(6, 0)", 3, x.net(6, 0));
        due("left(0, 0)", 17, x.left(0, 0));
        due("left(0, 2)", 2, x.left(0, 2));
        // 2, 5, -7 and 4, 4, -3, -5: two groups, though the greatest first would need six payments.
        x = Villages.of(1);
        int[] owed = {7, 3, 5};
        x.owe(0, 1, 0, 2);
        x.owe(0, 2, 0, 5);
        x.owe(3, 5, 0, 3);
        x.owe(4, 5, 0, 1);
        x.owe(4, 6, 0, 4);
        due("net(0, 0)", -owed[0], x.net(0, 0));
        due("net(3, 0)", -owed[1], x.net(3, 0));
        due("net(4, 0)", -owed[2], x.net(4, 0));
        due("left(0, 1)", 15, x.left(0, 1));
        due("left(0, 2)", 5, x.left(0, 2));
        due("left of no debts", 0, Villages.of(1).left(0, 2));
    }

    private static void rings() {
        CHECK.about("promise 20");
        FiddlerDebts x = Villages.of(3, 10);
        for (int i = 0; i < 8; i++) {
            x.owe(i, (i + 5) % 8, 0, 1);
        }
        int[] all = {0, 5, 2, 7, 4, 1, 6, 3};
        due("ring(0, -1)", 8, x.ring(0, -1));
        for (int i = 0; i < 8; i++) {
            due("ring(0, " + i + ")", all[i], x.ring(0, i));
        }
        due("ring(0, 8)", -1, x.ring(0, 8));
        due("ring(0, -2)", -1, x.ring(0, -2));
        due("ring(1, -1)", -1, x.ring(1, -1));
        due("ring(2, -1)", -1, x.ring(2, -1));
        due("ring(-1, -1)", -1, x.ring(-1, -1));
        // Fewer first: 7, 4, 1 as soon as 1 owes 7; then of three the lowest as bits: 0, 5, 2.
        x.owe(1, 7, 0, 1);
        due("ring(0, -1)", 3, x.ring(0, -1));
        due("ring(0, 0)", 1, x.ring(0, 0));
        due("ring(0, 1)", 7, x.ring(0, 1));
        due("ring(0, 2)", 4, x.ring(0, 2));
        x.owe(2, 0, 0, 1);
        due("ring(0, 1)", 5, x.ring(0, 1));
        due("ring(0, 2)", 2, x.ring(0, 2));
        x.owe(5, 0, 1, 1);
        due("ring(0, -1)", 3, x.ring(0, -1));
        x.owe(5, 0, 0, 1);
        due("ring(0, -1)", 2, x.ring(0, -1));
        due("ring(0, 0)", 0, x.ring(0, 0));
        due("ring(0, 1)", 5, x.ring(0, 1));
        Villages.force(x, "voids if ower=0 and creditor=5; bars");
        due("ring(0, -1)", 3, x.ring(0, -1));
        due("ring(0, 0)", 1, x.ring(0, 0));
        // The lowest as bits is not the one of the lowest dancer.
        x = Villages.of(1);
        x.owe(0, 7, 0, 1);
        x.owe(7, 0, 0, 1);
        x.owe(3, 4, 0, 1);
        x.owe(4, 3, 0, 1);
        due("ring(0, 0)", 3, x.ring(0, 0));
        due("ring(0, 1)", 4, x.ring(0, 1));
    }

    private static void cancels() {
        CHECK.about("promise 21");
        FiddlerDebts x = Villages.of(3, 10);
        due("cancel(2)", -2, x.cancel(2));
        due("cancel(-1)", -2, x.cancel(-1));
        due("cancel(0)", -3, x.cancel(0));
        x.owe(0, 1, 0, 2);
        x.owe(1, 2, 0, 9);
        x.owe(0, 1, 0, 4);
        x.owe(0, 1, 1, 4);
        x.owe(2, 0, 0, 5);
        x.owe(1, 0, 1, 4);
        x.owe(0, 1, 0, 3);
        due("cancel(0)", 5, x.cancel(0));
        due("count(1)", 5, x.count(1));
        due("of(0, 0)", 1, x.of(0, 0));
        due("of(0, 3)", 4, x.of(0, 3));
        due("of(1, 3)", 1, x.of(1, 3));
        due("of(1, 2)", 0, x.of(1, 2));
        due("of(2, 2)", 1, x.of(2, 2));
        due("of(4, 3)", 3, x.of(4, 3));
        due("cancel(0)", -3, x.cancel(0));
        due("cancel(1)", 4, x.cancel(1));
        due("count(1)", 3, x.count(1));
        due("status()", 0, x.status());
        // More than a few halves.
        x = Villages.of(3);
        for (int d = 0; d < 8; d++) {
            x.owe(6, 7, 0, 9);
            x.owe(7, 6, 0, 9 - d / 7);
        }
        due("cancel(0)", 71, x.cancel(0));
        due("count(1)", 1, x.count(1));
        due("count(2)", 1, x.count(2));
        due("of(0, 0)", 6, x.of(0, 0));
        // Void ones neither count nor go, also where the count of debts would change meanwhile.
        x = Villages.of(3);
        x.owe(0, 1, 0, 2);
        x.owe(0, 1, 0, 9);
        x.owe(1, 0, 0, 5);
        x.owe(1, 2, 0, 5);
        x.owe(1, 2, 0, 5);
        Villages.force(x, "voids if halves=9");
        due("cancel(0)", 2, x.cancel(0));
        due("of(0, 3)", 9, x.of(0, 3));
        due("of(1, 3)", 3, x.of(1, 3));
        due("cancel(0)", -3, x.cancel(0));
        x = Villages.of(3);
        x.owe(0, 1, 0, 2);
        x.owe(0, 1, 0, 3);
        x.owe(1, 0, 0, 9);
        Villages.force(x, "voids if halves<2");
        due("cancel(0)", 5, x.cancel(0));
        due("count(2)", 4, x.count(2));
    }

    private static void best(FiddlerDebts x, int minutes, int barrels, int... want) {
        for (int what = 0; what < want.length; what++) {
            due("best(0, " + minutes + ", " + barrels + ", " + what + ")", want[what], x.best(0, minutes, barrels, what));
        }
    }

    private static void bests() {
        CHECK.about("promise 22");
        FiddlerDebts x = Villages.of(7, 5, 30);
        x.owe(1, 0, 0, 3);
        x.owe(2, 0, 1, 2);
        x.owe(3, 0, 2, 1);
        x.owe(0, 4, 1, 9);
        due("best(8, 1, 1, 0)", -1, x.best(8, 1, 1, 0));
        due("best(-1, 1, 1, 0)", -1, x.best(-1, 1, 1, 0));
        due("best(0, -1, 1, 0)", -1, x.best(0, -1, 1, 0));
        due("best(0, 241, 1, 0)", -1, x.best(0, 241, 1, 0));
        due("best(0, 1, -1, 0)", -1, x.best(0, 1, -1, 0));
        due("best(0, 1, 9, 0)", -1, x.best(0, 1, 9, 0));
        due("best(0, 1, 1, -1)", -1, x.best(0, 1, 1, -1));
        due("best(0, 1, 1, 7)", -1, x.best(0, 1, 1, 7));
        due("best(0, 1, 1, MIN)", -1, x.best(0, 1, 1, Integer.MIN_VALUE));
        best(x, 0, 8, 0, 0, 0, 0, 0, 0, 0);
        best(x, 4, 8, 0, 0, 0, 0, 0, 0, 0);
        best(x, 240, 0, 0, 0, 0, 0, 0, 0, 0);
        best(x, 240, 8, 61, 14, 61, 3, 2, 1, 0);
        best(x, 61, 3, 61, 14, 61, 3, 2, 1, 0);
        best(x, 60, 3, 56, 14, 56, 3, 1, 1, 0);
        best(x, 24, 8, 24, 6, 24, 2, 2, 0, 0);
        best(x, 24, 1, 21, 2, 21, 3, 0, 0, 0);
        best(x, 240, 1, 30, 8, 30, 0, 0, 1, 0);
        best(x, 240, 2, 51, 10, 51, 3, 0, 1, 0);
        Villages.force(x, "worth 50 if tune=1; voids if tune=0; bars if ower=3");
        best(x, 240, 8, 100, 4, 10, 0, 2, 0, 0);
        Villages.force(x, "worth 0");
        best(x, 240, 8, 0, 0, 0, 0, 0, 0, 0);
        Villages.force(x, "worth 999 if tune=1; worth 0 if tune=0");
        best(x, 12, 8, 1998, 4, 10, 0, 2, 0, 0);
    }

    private static void bestsOfLongWeddings() {
        CHECK.about("promise 22, to the last minute");
        FiddlerDebts x = Villages.of(30, 1);
        x.owe(1, 0, 0, 9);
        best(x, 240, 8, 240, 2, 240, 8);
        best(x, 239, 8, 210, 2, 210, 7);
        best(x, 240, 1, 240, 2, 240, 8);
        x.owe(2, 0, 1, 9);
        best(x, 239, 8, 219, 6, 219, 7, 9);
        best(x, 239, 1, 210, 2, 210, 7, 0);
        best(x, 240, 1, 240, 2, 240, 8, 0);
        Villages.force(x, "worth 40 if tune=0");
        best(x, 240, 8, 320, 2, 240, 8, 0);
        best(x, 239, 8, 289, 6, 219, 7, 9);
    }

    private static void bestsOfAlikeOnes() {
        CHECK.about("promise 22, of alike ones");
        // The fewest owers: 6 alone, though 1 and 2 are lower and as worthy.
        FiddlerDebts x = Villages.of(5);
        x.owe(1, 0, 0, 1);
        x.owe(2, 0, 0, 1);
        x.owe(6, 0, 0, 2);
        best(x, 10, 8, 10, 64, 10, 0, 0, 2);
        // The lowest as bits: 3 and 4 (24) before 1 and 5 (34).
        x = Villages.of(5, 9);
        x.owe(5, 0, 0, 1);
        x.owe(4, 0, 0, 1);
        x.owe(3, 0, 1, 1);
        x.owe(1, 0, 1, 1);
        Villages.force(x, "worth 5");
        best(x, 14, 2, 10, 18, 14, 0, 1, 0, 1);
        Villages.force(x, "worth 5 if tune=1; worth 4; worth 6 if ower=1 or ower=5");
        best(x, 14, 2, 12, 34, 14, 1, 0, 0, 1);
        Villages.force(x, "worth 4; worth 6 if ower=3 or ower=5; bars if ower=1");
        best(x, 14, 2, 12, 40, 14, 1, 0, 1, 0);
        // The lowest as bits ahead of the least minutes.
        x = Villages.of(5, 9);
        x.owe(2, 0, 0, 1);
        x.owe(1, 0, 1, 1);
        Villages.force(x, "worth 7");
        best(x, 10, 8, 7, 2, 9, 0, 1);
        // The least minutes ahead of the first as a row.
        x = Villages.of(5, 9);
        x.owe(2, 0, 0, 1);
        x.owe(2, 0, 1, 1);
        Villages.force(x, "worth 7");
        best(x, 10, 8, 7, 4, 5, 1, 0);
        // Fewer ahead.
        x = Villages.of(5);
        x.owe(2, 0, 0, 3);
        x.owe(2, 1, 0, 3);
        x.owe(2, 0, 0, 3);
        x.owe(2, 0, 0, 3);
        best(x, 24, 8, 20, 4, 20, 0, 0, 1, 3);
        // Sixteen debts of nine halves.
        x = Villages.of(1);
        for (int d = 0; d < 16; d++) {
            x.owe(1 + d % 7, 0, 0, 9);
        }
        due("best(0, 240, 8, 0)", 144, x.best(0, 240, 8, 0));
        due("best(0, 240, 8, 18)", 9, x.best(0, 240, 8, 18));
        due("best(0, 143, 8, 3)", 8, x.best(0, 143, 8, 3));
        due("best(0, 240, 2, 0)", 54, x.best(0, 240, 2, 0));
        due("best(0, 240, 2, 1)", 6, x.best(0, 240, 2, 1));
    }

    private static void plays() {
        CHECK.about("promise 23");
        FiddlerDebts x = Villages.of(7, 5);
        x.owe(1, 0, 0, 3);
        x.owe(4, 5, 0, 8);
        x.owe(2, 0, 1, 2);
        due("play(8, 1, 1)", -1, x.play(8, 1, 1));
        due("play(-1, 1, 1)", -1, x.play(-1, 1, 1));
        due("play(0, 241, 1)", -1, x.play(0, 241, 1));
        due("play(0, -1, 1)", -1, x.play(0, -1, 1));
        due("play(0, 1, 9)", -1, x.play(0, 1, 9));
        due("play(0, 1, -1)", -1, x.play(0, 1, -1));
        due("play(3, 100, 8)", 0, x.play(3, 100, 8));
        due("play(0, 24, 0)", 0, x.play(0, 24, 0));
        due("count(2)", 13, x.count(2));
        due("play(0, 24, 8)", 24, x.play(0, 24, 8));
        due("count(1)", 2, x.count(1));
        due("of(0, 3)", 1, x.of(0, 3));
        due("of(1, 1)", 5, x.of(1, 1));
        due("of(1, 3)", 8, x.of(1, 3));
        due("play(0, 24, 8)", 7, x.play(0, 24, 8));
        due("play(0, 24, 8)", 0, x.play(0, 24, 8));
        due("status()", 0, x.status());
    }

    private static void twoBands() {
        CHECK.about("promise 24");
        FiddlerDebts x = Villages.of(1, 10);
        int[] halves = {3, 1, 1, 2, 2, 1};
        for (int many : halves) {
            x.owe(1, 0, 0, many);
        }
        x.owe(1, 2, 0, 9);
        due("bands(0, 0)", 5, x.bands(0, 0));
        due("bands(0, 1)", 1 + 2 + 4, x.bands(0, 1));
        x.owe(3, 0, 1, 1);
        due("bands(0, 0)", 10, x.bands(0, 0));
        due("bands(0, 1)", 63, x.bands(0, 1));
        x.owe(3, 0, 1, 1);
        x.owe(3, 0, 1, 1);
        due("bands(0, 0)", 20, x.bands(0, 0));
        due("bands(0, 1)", 63 + 128, x.bands(0, 1));
        due("bands(2, 0)", 9, x.bands(2, 0));
        due("bands(2, 1)", 0, x.bands(2, 1));
        due("bands(8, 0)", -1, x.bands(8, 0));
        due("bands(-1, 0)", -1, x.bands(-1, 0));
        due("bands(0, 2)", -1, x.bands(0, 2));
        due("bands(0, -1)", -1, x.bands(0, -1));
        Villages.force(x, "voids if tune=1; bars");
        due("bands(0, 0)", 5, x.bands(0, 0));
        x = Villages.of(30);
        for (int d = 0; d < 16; d++) {
            x.owe(1, 0, 0, 9);
        }
        due("bands(0, 0)", 2160, x.bands(0, 0));
        due("bands(0, 1)", 255, x.bands(0, 1));
    }

    private static void weddings() {
        CHECK.about("promises 25, 26");
        FiddlerDebts x = Villages.of(1);
        due("wedding(8, 1)", -1, x.wedding(8, 1));
        due("wedding(-1, 1)", -1, x.wedding(-1, 1));
        due("wedding(1, -1)", -1, x.wedding(1, -1));
        due("wedding(1, 241)", -1, x.wedding(1, 241));
        for (int i = 1; i <= 8; i++) {
            due("wedding(0, 240)", i, x.wedding(0, i % 2 * 240));
        }
        due("wedding(0, 241) once full", -1, x.wedding(0, 241));
        due("wedding(0, 1) once full", -5, x.wedding(0, 1));
        due("count(4)", 8, x.count(4));
        due("divorce()", 8, x.divorce());
        due("status()", -5, x.status());
        due("count(4)", 0, x.count(4));
        due("divorce()", 0, x.divorce());
        due("wedding(7, 0)", 1, x.wedding(7, 0));
    }

    private static void free() {
        CHECK.about("promise 27");
        FiddlerDebts x = Villages.of(10, 3);
        x.owe(1, 0, 0, 2);
        x.owe(1, 0, 1, 3);
        x.owe(1, 2, 1, 1);
        due("free(8)", -1, x.free(8));
        due("free(-1)", -1, x.free(-1));
        due("free(0)", -1, x.free(0));
        due("free(1)", 100, x.free(1));
        x.wedding(0, 16);
        x.wedding(2, 2);
        x.wedding(0, 12);
        due("free(1)", 100, x.free(1));
        x.wedding(2, 3);
        due("free(1) where two of the second fit into what the first leaves", 100, x.free(1));
        x.wedding(0, 1);
        due("free(1)", 100, x.free(1));
        x.wedding(0, 3);
        due("free(1)", 5, x.free(1));
        x.divorce();
        x.wedding(0, 19);
        x.wedding(0, 10);
        x.wedding(2, 240);
        due("free(1)", 2, x.free(1));
        // Nothing was played indeed.
        due("count(2)", 6, x.count(2));
        Villages.force(x, "voids if creditor=2");
        due("free(1)", 1, x.free(1));
        Villages.force(x, "voids");
        due("free(1)", -1, x.free(1));
        freeOfBarredOnes();
    }

    private static void freeOfBarredOnes() {
        FiddlerDebts x = Villages.of(10, 3);
        x.owe(1, 0, 0, 2);
        x.owe(1, 0, 1, 3);
        x.owe(2, 0, 1, 1);
        x.wedding(0, 240);
        due("free(1)", 0, x.free(1));
        Villages.force(x, "bars if tune=0");
        due("free(1), barred from one of two", 100, x.free(1));
        due("free(2), barred from none", 0, x.free(2));
        Villages.force(x, "bars");
        due("free(2), barred from all", 100, x.free(2));
        due("free(0), who owes none", -1, x.free(0));
        x.divorce();
        due("free(2), without weddings", 100, x.free(2));
        Villages.force(x, "bars if tune=0; voids if tune=0");
        x.wedding(0, 8);
        x.wedding(0, 1);
        x.wedding(0, 3);
        due("free(1), the barred one being void", 2, x.free(1));
        Villages.force(x, "bars; voids");
        due("free(1), all barred and void", -1, x.free(1));
    }

    private static void dances() {
        CHECK.about("promises 28, 29, 30");
        FiddlerDebts x = Villages.of(10, 3);
        due("dance(8, 0)", -1, x.dance(8, 0));
        due("dance(-1, 9)", -1, x.dance(-1, 9));
        due("dance(0, 2)", -2, x.dance(0, 2));
        due("dance(0, -1)", -2, x.dance(0, -1));
        for (int i = 0; i < 10; i++) {
            due("dance", i, x.dance(i % 8, i % 2));
        }
        due("dance(0, 0) once full", -5, x.dance(0, 0));
        due("dance(0, 2) once full", -2, x.dance(0, 2));
        due("ahead(10, 10)", -1, x.ahead(10, 10));
        due("ahead(-1, -1)", -1, x.ahead(-1, -1));
        due("ahead(0, 10)", -2, x.ahead(0, 10));
        due("ahead(-1, 0)", -2, x.ahead(-1, 0));
        for (int i = 1; i <= 12; i++) {
            due("ahead", i, x.ahead(i % 9, 9));
        }
        due("ahead(0, 1) once full", -5, x.ahead(0, 1));
        due("ahead(0, 10) once full", -2, x.ahead(0, 10));
        due("count(5)", 10, x.count(5));
        due("count(6)", 12, x.count(6));
        due("forget()", 10, x.forget());
        due("status()", -2, x.status());
        due("count(5)", 0, x.count(5));
        due("count(6)", 0, x.count(6));
        due("ahead(0, 1)", -2, x.ahead(0, 1));
        due("dance(0, 0)", 0, x.dance(0, 0));
    }

    private static void orders() {
        CHECK.about("promises 31, 32");
        FiddlerDebts x = Villages.of(10, 3);
        due("orders(0, -1)", 1, x.orders(0, -1));
        due("orders(2, -1)", -1, x.orders(2, -1));
        due("orders(-1, -1)", -1, x.orders(-1, -1));
        due("orders(0, -2)", -1, x.orders(0, -2));
        due("orders(0, 8)", -1, x.orders(0, 8));
        due("can(2)", -1, x.can(2));
        due("can(-1)", -1, x.can(-1));
        for (int i = 0; i < 10; i++) {
            x.dance(i % 3, 0);
        }
        due("orders(0, -1)", 3628800, x.orders(0, -1));
        due("orders(0, 0)", 4 * 362880, x.orders(0, 0));
        due("orders(0, 2)", 3 * 362880, x.orders(0, 2));
        due("orders(0, 3)", 0, x.orders(0, 3));
        due("can(0)", 7, x.can(0));
        x.ahead(0, 1);
        due("orders(0, -1)", 1814400, x.orders(0, -1));
        x.ahead(0, 1);
        due("orders(0, -1)", 1814400, x.orders(0, -1));
        for (int i = 1; i < 9; i++) {
            x.ahead(i, i + 1);
        }
        due("orders(0, -1)", 1, x.orders(0, -1));
        due("can(0)", 1, x.can(0));
        // Through a dance of another tune.
        x.forget();
        x.dance(5, 0);
        x.dance(6, 1);
        x.dance(7, 0);
        x.dance(7, 0);
        x.ahead(2, 1);
        due("orders(0, -1)", 6, x.orders(0, -1));
        x.ahead(1, 0);
        due("orders(0, -1)", 3, x.orders(0, -1));
        due("orders(0, 5)", 2, x.orders(0, 5));
        due("orders(0, 7)", 1, x.orders(0, 7));
        due("can(0)", 160, x.can(0));
        due("orders(1, 6)", 1, x.orders(1, 6));
        due("can(1)", 64, x.can(1));
        // A circle leaves none.
        x.ahead(0, 2);
        due("orders(0, -1)", 0, x.orders(0, -1));
        due("can(1)", 0, x.can(1));
    }

    private static void evenings() {
        CHECK.about("promises 33, 34");
        FiddlerDebts x = new FiddlerDebts();
        due("evenings(-1, 1)", -1, x.evenings(-1, 1));
        due("evenings(1000001, 1)", -1, x.evenings(1000001, 1));
        due("evenings(0, 0)", -1, x.evenings(0, 0));
        due("evenings(0, 21)", -1, x.evenings(0, 21));
        due("owed(0, 0)", -1, x.owed(0, 0));
        due("evenings(1000000, 20) without tunes", 0, x.evenings(1000000, 20));
        due("owed(0, 0)", 0, x.owed(0, 0));
        due("owed(8, 0)", -1, x.owed(8, 0));
        due("owed(-1, 0)", -1, x.owed(-1, 0));
        due("owed(0, 2)", -1, x.owed(0, 2));
        due("owed(0, -1)", -1, x.owed(0, -1));
        // With the seed 0 there dance 1, 1, 4, 1, 6, 5; the tunes are 1, 1, 0, 1, 0, 0.
        x.tune(5);
        x.tune(6);
        x.owe(1, 0, 0, 2);
        x.owe(2, 1, 0, 3);
        x.owe(3, 6, 1, 4);
        x.owe(2, 3, 1, 9);
        Villages.force(x, "voids; bars");
        due("evenings(0, 1)", 5, x.evenings(0, 1));
        int[] halves = {0, 13, 3, 0, 0, 2, 0, 0};
        int[] others = {0, 2, 1, 0, 0, 1, 0, 0};
        for (int d = 0; d < 8; d++) {
            due("owed(" + d + ", 0)", halves[d], x.owed(d, 0));
            due("owed(" + d + ", 1)", others[d], x.owed(d, 1));
        }
        due("of(0, 0)", 1, x.of(0, 0));
        int before = x.owed(2, 0);
        x.funeral(2);
        x.evenings(-1, 1);
        due("owed(2, 0)", before, x.owed(2, 0));
    }

    private static void images() {
        CHECK.about("promises 35, 36");
        FiddlerDebts x = Villages.of(10);
        due("image(-1)", -1, x.image(-1));
        due("image(2)", -1, x.image(2));
        due("back(-1)", -1, x.back(-1));
        due("back(2)", -1, x.back(2));
        due("back(0)", -2, x.back(0));
        x.owe(1, 2, 0, 4);
        Villages.force(x, "worth 20");
        x.wedding(2, 80);
        x.dance(3, 0);
        x.dance(4, 0);
        x.ahead(0, 1);
        x.terms(0, 9);
        due("image(1)", 0, x.image(1));
        due("back(0)", -2, x.back(0));
        x.tune(20);
        x.pay(0, 1);
        x.owe(5, 6, 1, 1);
        Villages.force(x, "worth 30");
        x.divorce();
        x.forget();
        x.terms(0, 50);
        x.evenings(3, 3);
        Tapes.law(x, "worth ?");
        Tapes.put(x, 0, 1, 0, 1, 9);
        due("row()", 1, x.row());
        Tapes.put(x, 1, 2, 3);
        due("image(0)", 0, x.image(0));
        int owed = x.owed(5, 0);
        int refused = x.count(8);
        due("back(1)", 0, x.back(1));
        int[] then = {1, 1, 4, 1, 1, 2, 1, 3, refused, 2, 0, 0, 1, 0, 9};
        for (int what = 0; what < then.length; what++) {
            due("count(" + what + ")", then[what], x.count(what));
        }
        due("of(0, 3)", 4, x.of(0, 3));
        due("of(0, 5)", 20, x.of(0, 5));
        due("free(1)", 0, x.free(1));
        due("orders(0, -1)", 1, x.orders(0, -1));
        due("fault()", 6, x.fault());
        due("sung()", 1, x.sung());
        due("owed(5, 0)", owed, x.owed(5, 0));
        x.end(0);
        // A law made now has the number of one that the other image keeps.
        Villages.force(x, "worth 40");
        due("of(0, 5)", 40, x.of(0, 5));
        due("back(0)", 0, x.back(0));
        due("count(1)", 3, x.count(1));
        due("count(13)", 1, x.count(13));
        due("of(0, 3)", 3, x.of(0, 3));
        due("of(0, 5)", 30, x.of(0, 5));
        due("count(14)", 50, x.count(14));
        x.funeral(1);
        x.force(-1);
        due("back(0)", 0, x.back(0));
        due("of(0, 5)", 30, x.of(0, 5));
        due("back(1)", 0, x.back(1));
        due("of(0, 5)", 20, x.of(0, 5));
        x.funeral(1);
        due("image(1)", 0, x.image(1));
        due("back(0)", 0, x.back(0));
        due("back(1)", 0, x.back(1));
        due("count(1)", 0, x.count(1));
    }

    private static void imagesOfEachRow() {
        CHECK.about("promises 35, 36, each row");
        FiddlerDebts x = new FiddlerDebts();
        due("image(0)", 0, x.image(0));
        x.tune(10);
        x.owe(1, 2, 0, 4);
        Villages.force(x, "worth 20");
        x.wedding(3, 240);
        x.wedding(2, 20);
        x.wedding(2, 19);
        x.wedding(2, 20);
        for (int d = 0; d < 4; d++) {
            x.dance(d, 0);
        }
        x.ahead(3, 2);
        x.ahead(2, 1);
        due("free(1)", 3, x.free(1));
        due("orders(0, -1)", 4, x.orders(0, -1));
        due("can(0)", 3, x.can(0));
        due("image(1)", 0, x.image(1));
        due("back(0)", 0, x.back(0));
        for (int what = 0; what < 7; what++) {
            due("count(" + what + ")", 0, x.count(what));
        }
        due("count(13)", -1, x.count(13));
        x.tune(2);
        x.tune(3);
        x.owe(7, 6, 1, 9);
        Villages.force(x, "worth 30");
        x.wedding(2, 240);
        for (int d = 0; d < 4; d++) {
            x.dance(7 - d, 1);
        }
        x.ahead(0, 1);
        x.ahead(1, 2);
        x.ahead(2, 3);
        due("orders(1, -1)", 1, x.orders(1, -1));
        due("of(0, 5)", 30, x.of(0, 5));
        due("back(1)", 0, x.back(1));
        int[] debt = {1, 2, 0, 4, 0, 20, 0, 0};
        for (int what = 0; what < debt.length; what++) {
            due("of(0, " + what + ")", debt[what], x.of(0, what));
        }
        due("length(0)", 10, x.length(0));
        due("length(1)", -1, x.length(1));
        due("free(1)", 3, x.free(1));
        due("orders(0, -1)", 4, x.orders(0, -1));
        due("orders(0, 0)", 1, x.orders(0, 0));
        due("orders(0, 1)", 3, x.orders(0, 1));
        due("can(0)", 3, x.can(0));
    }

    private static void counts() {
        CHECK.about("promise 37");
        FiddlerDebts x = Villages.of(10, 3);
        x.owe(0, 1, 0, 3);
        x.owe(0, 1, 0, 4);
        Villages.force(x, "voids");
        x.wedding(1, 1);
        x.dance(0, 0);
        x.dance(0, 0);
        x.dance(0, 0);
        x.ahead(0, 1);
        x.ahead(0, 2);
        x.terms(0, 77);
        x.tune(0);
        x.tune(0);
        x.tune(0);
        x.cancel(9);
        x.cancel(9);
        x.cancel(0);
        x.law();
        x.law();
        x.law();
        x.law();
        for (int i = 0; i < 19; i++) {
            x.wedding(0, 1);
        }
        x.feed(0, 0, 0, 0, 0);
        int[] want = {2, 2, 7, 1, 8, 3, 2, 20, 3, 2, 1, 12, 4, 0, 77};
        for (int what = 0; what < want.length; what++) {
            due("count(" + what + ")", want[what], x.count(what));
        }
        due("count(15)", -1, x.count(15));
        due("count(-1)", -1, x.count(-1));
        due("count(MIN)", -1, x.count(Integer.MIN_VALUE));
        due("count(MAX)", -1, x.count(Integer.MAX_VALUE));
        // Questions are not refused.
        x.length(9);
        x.of(99, 0);
        x.end(99);
        x.balance(9);
        x.best(9, 9, 9, 9);
        x.free(9);
        x.orders(9, 9);
        due("count(8)", 3, x.count(8));
        due("status()", -5, x.status());
    }

    private static void statuses() {
        CHECK.about("promise 38");
        String[] told = {"tune", "owe", "pay", "funeral", "terms", "row", "law", "force", "cancel", "play", "wedding",
            "dance", "ahead", "evenings", "image", "back"};
        int[][] bad = {{0}, {0, 0, 0, 0}, {0, 0}, {9}, {1, 1}, {}, {}, {9}, {9}, {9, 0, 0}, {9, 0}, {9, 0}, {0, 0},
            {-1, 1}, {5}, {5}};
        int[][] good = {{1}, {0, 1, 0, 1}, {0, 1}, {7}, {0, 1}, {}, {}, {0}, {0}, {0, 0, 0}, {0, 0}, {0, 0}, {0, 1},
            {0, 1}, {0}, {0}};
        for (int i = 0; i < told.length; i++) {
            FiddlerDebts x = ready();
            int reason = Calls.ask(x, told[i], bad[i]);
            due(told[i] + " is refused", 1, reason < 0 ? 1 : 0);
            due("status() behind bad " + told[i], reason, x.status());
            for (String name : new String[] {"sung", "fault", "richest", "divorce", "forget", "status"}) {
                Calls.ask(x, name, new int[0]);
                due("status() behind " + name, reason, x.status());
            }
            x = ready();
            x.tune(0);
            if (told[i].equals("law")) {
                Tapes.put(x, "bars");
            }
            if (told[i].equals("row")) {
                Tapes.put(x, 9);
            }
            due(told[i] + " is not refused", 1, Calls.ask(x, told[i], good[i]) >= -1 ? 1 : 0);
            due("status() behind good " + told[i], 0, x.status());
        }
    }

    /** Two debts that make a ring, a law, two dances, an image. */
    private static FiddlerDebts ready() {
        FiddlerDebts x = Villages.of(1);
        x.owe(0, 1, 0, 2);
        x.owe(1, 0, 0, 2);
        Tapes.law(x, "worth 1");
        x.dance(0, 0);
        x.dance(1, 0);
        x.image(0);
        return x;
    }

    private static void wildNumbers() {
        CHECK.about("wild numbers");
        int[] wild = {Integer.MIN_VALUE, Integer.MIN_VALUE + 1, -1000, -2, 16, 400, 1 << 20, Integer.MAX_VALUE};
        String[] names = {"tune", "length", "owe", "of", "pay", "funeral", "terms", "end", "force", "balance", "net",
            "left", "cancel", "best", "play", "bands", "wedding", "free", "dance", "ahead", "orders", "can", "owed",
            "image", "back"};
        for (int n : wild) {
            FiddlerDebts x = ready();
            for (String name : names) {
                int[] a = {n, n, n, n};
                int answer = Calls.ask(x, name, a);
                if (name.equals("tune") && n == 16) {
                    continue;
                }
                due(name + " of " + n, 1, answer < 0 ? 1 : 0);
            }
            due("count(2)", 4, x.count(2));
            x.ring(n, n);
            x.evenings(n, n);
            x.feed(n, n, n, n, n);
            x.count(n);
        }
    }
}
