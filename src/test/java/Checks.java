/** Compares answers with those that are due, and ends a test with exit code 1 if one was wrong. */
final class Checks {
    private static final int MOST_PRINTED_A_SENTENCE = 10;

    private String sentence = "";
    private int madeBefore = -1;
    private int wrong;
    private int wrongBefore;
    private int made;

    /** The words of the document that the answers from here on are looked at for. */
    void sentence(String words) {
        endSentence();
        sentence = words;
        madeBefore = made;
        wrongBefore = wrong;
    }

    private void endSentence() {
        if (made == madeBefore) {
            due("no answer is looked at", made, made + 1);
        }
    }

    void due(String call, long got, long want) {
        made++;
        if (got != want) {
            wrong++;
            if (wrong - wrongBefore <= MOST_PRINTED_A_SENTENCE) {
                System.out.println((sentence.isEmpty() ? "" : "[" + sentence + "] ")
                    + call + " answered " + got + ", due is " + want);
            }
        }
    }

    void due(String call, boolean got, boolean want) {
        due(call, got ? 1 : 0, want ? 1 : 0);
    }

    boolean allRight() {
        return wrong == 0;
    }

    void end() {
        endSentence();
        System.out.println(made + " answers looked at, " + wrong + " wrong");
        if (wrong != 0) {
            System.exit(1);
        }
    }
}
