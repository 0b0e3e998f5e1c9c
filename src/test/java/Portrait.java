import java.util.ArrayList;
import java.util.List;

/** All that a village tells when it is asked, but what was REFUSED: of two alike ones the same lines. */
final class Portrait {
    private final FiddlerDebts x;
    private final List<String> lines = new ArrayList<>();

    private Portrait(FiddlerDebts x) {
        this.x = x;
    }

    /** Some 350 calls; the last of them go BACK to the IMAGES, so it is the last thing to do with a village. */
    static List<String> of(FiddlerDebts x) {
        Portrait portrait = new Portrait(x);
        portrait.counts();
        portrait.lines("length", 6);
        portrait.lines("sung");
        portrait.lines("fault");
        portrait.lines("of", 16, 8);
        portrait.ofDancers();
        portrait.ofTunes();
        portrait.ofWhatIsKept();
        return portrait.lines;
    }

    private void ofDancers() {
        lines("richest");
        lines("balance", 8);
        lines("net", 8, 6);
        lines("free", 8);
        lines("bands", 8, 2);
        lines("owed", 8, 2);
        for (int host = 0; host < 8; host++) {
            line("best", host, 60, 2, 0);
            line("best", host, 60, 2, 1);
        }
    }

    private void ofTunes() {
        lines("left", 6, 3);
        lines("can", 6);
        for (int tune = 0; tune < 6; tune++) {
            line("ring", tune, -1);
            line("orders", tune, -1);
        }
    }

    /** What stands on the TAPE shows where it faults as a LAW; and then the IMAGES. */
    private void ofWhatIsKept() {
        line("law");
        line("fault");
        for (int k = 0; k < 2; k++) {
            line("back", k);
            counts();
            lines("of", 2, 8);
        }
    }

    private void counts() {
        for (int what = 0; what < 15; what++) {
            if (what < 8 || what > 12) {
                line("count", what);
            }
        }
    }

    private void lines(String call) {
        line(call);
    }

    private void lines(String call, int many) {
        for (int i = 0; i < many; i++) {
            line(call, i);
        }
    }

    private void lines(String call, int many, int manyMore) {
        for (int i = 0; i < many; i++) {
            for (int j = 0; j < manyMore; j++) {
                line(call, i, j);
            }
        }
    }

    private void line(String call, int... a) {
        StringBuilder line = new StringBuilder(call);
        for (int n : a) {
            line.append(' ').append(n);
        }
        lines.add(line.append(": ").append(Calls.ask(x, call, a)).toString());
    }
}
