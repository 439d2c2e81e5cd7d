/** Counts the answers of one test that are not as due, and ends it. */
final class Check {
    private final String name;
    private int answers;
    private int wrong;

    Check(String name) {
        this.name = name;
    }

    void due(String what, long got, long want) {
        answers++;
        if (got == want) return;
        wrong++;
        if (wrong <= 40) System.out.println(name + ": " + what + " answered " + got + ", due is " + want);
    }

    boolean hasWrong() {
        return wrong > 0;
    }

    void end() {
        System.out.println(name + ": " + answers + " answers, " + wrong + " not as due");
        if (wrong > 0 || answers == 0) System.exit(1);
    }
}
