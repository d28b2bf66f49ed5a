/** Counts answers that are not the ones that are due, prints them, and ends with exit code 1 if there was one. */
final class Check {
    private int asked;
    private int wrong;

    void due(String call, long want, long got) {
        asked++;
        if (got != want) {
            wrong++;
            System.out.println(call + " answered " + got + ", due is " + want);
        }
    }

    void holds(String what, boolean holds) {
        due(what, 1, holds ? 1 : 0);
    }

    boolean anyWrong() {
        return wrong != 0;
    }

    void end() {
        System.out.println(asked + " asked, " + wrong + " wrong");
        if (wrong != 0 || asked == 0) {
            System.exit(1);
        }
    }
}
