/** Counts and prints the answers of a test that are not as due. */
final class Check {
    private int wrong = 0;
    private int checked = 0;
    private String part = "";

    void part(String name) {
        part = name;
    }

    void due(String call, long got, long want) {
        checked++;
        if (got != want) {
            wrong++;
            System.out.println(part + ": " + call + " answered " + got + ", due is " + want);
        }
    }

    void holds(String what, boolean isSo) {
        due(what, isSo ? 1 : 0, 1);
    }

    boolean isClean() {
        return wrong == 0;
    }

    /** Ends the program with exit code 1 if an answer was wrong, or if nothing was checked. */
    void end() {
        System.out.println(checked + " answers checked, " + wrong + " not as due");
        if (wrong != 0 || checked == 0) {
            System.exit(1);
        }
    }
}
