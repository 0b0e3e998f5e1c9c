import java.lang.management.ManagementFactory;

/**
 * All calls of one run live in one room of 7.3 million fields and elements:
 * what a village and its calls make, told by the bytes that this thread was given.
 */
public final class RoomTest {
    private static final Check CHECK = new Check("RoomTest");
    private static final com.sun.management.ThreadMXBean THREADS =
        (com.sun.management.ThreadMXBean) ManagementFactory.getThreadMXBean();
    private static final int TIMES = 2000;
    /** The least that an object takes: made by one call of each round, it would be twice what is allowed. */
    private static final int LEAST_BYTES = 16;
    private static final String LONGEST = "worth ower/[halves+1];".repeat(10);

    private RoomTest() {
    }

    public static void main(String[] args) {
        made();
        aVillageIsSmall();
        callsMakeNothing();
        lawsAreSmall();
        CHECK.finish();
    }

    private static long made() {
        return THREADS.getThreadAllocatedBytes(Thread.currentThread().getId());
    }

    private static void within(String what, long bytes, long most) {
        CHECK.due(what + " makes " + bytes + " bytes, " + most + " at most", 1, bytes <= most ? 1 : 0);
    }

    private static void aVillageIsSmall() {
        CHECK.about("a village with its IMAGES");
        long kept = 0;
        for (int time = 0; time < 2; time++) {
            long before = made();
            FiddlerDebts x = new FiddlerDebts();
            x.image(0);
            x.image(1);
            kept = made() - before;
        }
        within("it", kept, 100_000);
    }

    private static void callsMakeNothing() {
        CHECK.about("calls but law() and the first image()");
        FiddlerDebts x = Villages.full();
        askAll(x);
        long before = made();
        for (int time = 0; time < TIMES; time++) {
            askAll(x);
        }
        within("all of them together", made() - before, TIMES * LEAST_BYTES / 2);
    }

    /** What is done is gone back on, so each time all of it has as much to do. */
    private static void askAll(FiddlerDebts x) {
        x.image(0);
        x.tune(3);
        x.length(3);
        x.owe(0, 1, 2, 3);
        x.of(3, 5);
        x.balance(3);
        x.richest();
        x.net(1, 2);
        x.left(0, 2);
        x.ring(0, 0);
        x.cancel(0);
        x.best(1, 200, 1, 0);
        x.bands(1, 1);
        x.wedding(1, 30);
        x.free(0);
        x.dance(0, 0);
        x.ahead(0, 1);
        x.orders(0, 1);
        x.can(0);
        x.evenings(5, 2);
        x.owed(1, 1);
        x.pay(0, 1);
        x.play(2, 200, 1);
        x.funeral(3);
        x.terms(0, 5);
        x.forget();
        x.divorce();
        x.force(-1);
        x.end(0);
        x.feed(1, 0x00010203, 0x01020304, 5, 6);
        x.row();
        x.feed(1, 2, 3, 4, 5);
        x.law();
        x.sung();
        x.fault();
        x.count(2);
        x.status();
        x.back(0);
    }

    /** 512 of them would be some hundred thousand elements. */
    private static void lawsAreSmall() {
        CHECK.about("law() of a long TEXT");
        FiddlerDebts x = new FiddlerDebts();
        x.image(0);
        long most = 0;
        for (int time = 0; time < 40; time++) {
            Tapes.put(x, LONGEST + "bars");
            long before = made();
            CHECK.due("law()", 0, x.law());
            most = Math.max(most, time < 2 ? 0 : made() - before);
            x.back(0);
        }
        within("it", most, 4 * 800 + 16);
    }
}
