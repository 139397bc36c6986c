/** Counts the answers of one test and ends it, with exit code 1 if one was wrong. */
final class Check {
    private int right;
    private int wrong;

    void due(String about, long got, long want) {
        if (got == want) {
            right++;
        } else {
            wrong++;
            System.out.println(about + ": answered " + got + ", due is " + want);
        }
    }

    void end() {
        System.out.println(right + " answers right, " + wrong + " wrong");
        if (wrong != 0 || right == 0) {
            System.exit(1);
        }
    }
}
