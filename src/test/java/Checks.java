/** Counts the answers that are not the ones that are due. */
final class Checks {
    private int told = 0;
    private int wrong = 0;

    void due(String call, long got, long want) {
        told++;
        if (got != want) {
            wrong++;
            System.out.println(call + " answered " + got + ", due is " + want);
        }
    }

    void holds(String what, boolean isSo) {
        due(what, isSo ? 1 : 0, 1);
    }

    /** Ends the program, with exit code 1 if an answer was wrong. */
    void end(String test) {
        System.out.println(test + ": " + told + " answers, " + wrong + " wrong");
        System.exit(wrong == 0 && told > 0 ? 0 : 1);
    }
}
