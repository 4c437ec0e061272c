/** Looks at answers, a sentence of the document at a time, and prints those that are not as due. */
final class Due {
    private String sentence = "";
    private boolean told = false;
    private int lookedAt = 0;
    private int wrong = 0;

    /** The document's words that the answers from here on belong to; the words ahead must have had some. */
    void sentence(String where, String words) {
        endSentence();
        sentence = where + ": \"" + words + "\"";
        told = false;
        lookedAt = 0;
    }

    /** One of several cases that the same words tell. */
    void sentence(String where, String words, String which) {
        sentence(where + ", " + which, words);
    }

    void same(String call, long got, long want) {
        lookedAt++;
        if (got != want) {
            tell(call + " answered " + got + ", due is " + want);
        }
    }

    void same(String call, boolean got, boolean want) {
        same(call, got ? 1 : 0, want ? 1 : 0);
    }

    void same(String call, String got, String want) {
        lookedAt++;
        if (!got.equals(want)) {
            tell(call + " answered " + got + ", due is " + want);
        }
    }

    boolean allWell() {
        return wrong == 0;
    }

    void end() {
        endSentence();
        System.out.println(wrong == 0 ? "all answers are as due" : wrong + " answers are not as due");
        if (wrong != 0) {
            System.exit(1);
        }
    }

    private void endSentence() {
        if (!sentence.isEmpty() && lookedAt == 0) {
            tell("no answer was looked at");
        }
    }

    private void tell(String text) {
        wrong++;
        if (!sentence.isEmpty() && !told) {
            System.out.println(sentence);
            told = true;
        }
        System.out.println("  " + text);
    }
}
