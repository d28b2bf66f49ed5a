/** Random runs of films as large as the document allows, held against the LargeModel. */
public final class LargeTest {
    private static final int RUNS = 60;

    private LargeTest() {
    }

    public static void main(String[] args) {
        Check check = new Check();
        for (int run = 0; run < RUNS && !check.anyWrong(); run++) {
            Run.large(check, run).go();
        }
        check.end();
    }
}
