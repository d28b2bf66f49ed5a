/** Random runs of small films, held against the Model that tries every way, and the LargeModel against it too. */
public final class ModelTest {
    private static final int RUNS = 150;

    private ModelTest() {
    }

    public static void main(String[] args) {
        Check check = new Check();
        for (int run = 0; run < RUNS && !check.anyWrong(); run++) {
            Run.small(check, new Model(), run).go();
            Run.small(check, new LargeModel(), run).go();
        }
        check.end();
    }
}
