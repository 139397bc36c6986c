/** Counts the answers of one test and ends it, with exit code 1 if one was wrong. */
final class Check {
    private int right;
    private int wrong;

    void due(String about, long got, long want) {
        if (got == want) {
            right++;
        } else {
            wrong++;
            System.out.println(about + ": answered " + got + ", due is " + want);
        }
    }

    void yes(String about, boolean holds) {
        due(about, holds ? 1 : 0, 1);
    }

    void same(String about, String got, String want) {
        if (got.equals(want)) {
            right++;
        } else {
            wrong++;
            System.out.println(about + ": it is\n" + got + "\ndue is\n" + want);
        }
    }

    void end() {
        System.out.println(right + " answers right, " + wrong + " wrong");
        if (wrong != 0 || right == 0) {
            System.exit(1);
        }
    }
}
