/** Counts and prints the answers that are not as due. */
final class Check {
    private final String of;
    private int wrong = 0;
    private int done = 0;

    Check(String of) {
        this.of = of;
    }

    void due(String call, long got, long want) {
        done++;
        if (got != want) {
            wrong++;
            System.out.println(of + ": " + call + " answered " + got + ", due is " + want);
        }
    }

    void end() {
        System.out.println(of + ": " + done + " answers, " + wrong + " wrong");
        if (wrong != 0 || done == 0) {
            System.exit(1);
        }
    }
}
