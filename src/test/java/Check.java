import java.util.List;

/** Counts the answers that are not as due; a test ends with exit code 1 if there was one. */
final class Check {
    private final String name;
    private int asked = 0;
    private int wrong = 0;
    private String about = "";

    Check(String name) {
        this.name = name;
    }

    void about(String what) {
        about = what;
    }

    void due(String call, long want, long got) {
        asked++;
        if (got != want) {
            wrong++;
            if (wrong <= 40) {
                System.out.println(name + ", " + about + ": " + call + " answered " + got + ", due is " + want);
            }
        }
    }

    /** The same lines are due. */
    void same(String what, List<String> want, List<String> got) {
        due(what + ", how many lines", want.size(), got.size());
        for (int i = 0; i < Math.min(want.size(), got.size()); i++) {
            due(what + ", " + got.get(i) + " (due is " + want.get(i) + ")", 1, want.get(i).equals(got.get(i)) ? 1 : 0);
        }
    }

    int wrong() {
        return wrong;
    }

    void finish() {
        System.out.println(name + ": " + asked + " answers, " + wrong + " not as due");
        if (wrong != 0 || asked == 0) {
            System.exit(1);
        }
    }
}
