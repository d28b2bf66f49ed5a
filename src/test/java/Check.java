/** Counts answers that are not the ones that are due, prints them, and ends with exit code 1 if there was one. */
final class Check {
    private String sentence = "";
    private int askedOfSentence = 1;
    private int asked;
    private int wrong;

    /** What follows tests this sentence of the document; a sentence of which nothing is asked is wrong too. */
    void says(String words) {
        if (askedOfSentence == 0) {
            wrong++;
            System.out.println(sentence + "nothing was asked");
        }
        sentence = "\"" + words + "\": ";
        askedOfSentence = 0;
    }

    void due(String call, long want, long got) {
        asked++;
        askedOfSentence++;
        if (got != want) {
            wrong++;
            System.out.println(sentence + call + " answered " + got + ", due is " + want);
        }
    }

    void holds(String what, boolean holds) {
        due(what, 1, holds ? 1 : 0);
    }

    boolean anyWrong() {
        return wrong != 0;
    }

    void end() {
        says("");
        System.out.println(asked + " asked, " + wrong + " wrong");
        if (wrong != 0 || asked == 0) {
            System.exit(1);
        }
    }
}
