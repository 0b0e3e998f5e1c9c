/** Counts the answers that are not as due; a test ends with exit code 1 if there was one. */
final class Check {
    private final String name;
    private int asked = 0;
    private int wrong = 0;
    private String about = "";

    Check(String name) {
        this.name = name;
    }

    void about(String what) {
        about = what;
    }

    void due(String call, long want, long got) {
        asked++;
        if (got != want) {
            wrong++;
            if (wrong <= 40) {
                System.out.println(name + ", " + about + ": " + call + " answered " + got + ", due is " + want);
            }
        }
    }

    int wrong() {
        return wrong;
    }

    void finish() {
        System.out.println(name + ": " + asked + " answers, " + wrong + " not as due");
        if (wrong != 0 || asked == 0) {
            System.exit(1);
        }
    }
}
