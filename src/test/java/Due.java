/** Compares answers with those that are due, prints the wrong ones and remembers that there were some. */
final class Due {
    private static final int MOST_PRINTED = 40;
    private int asked = 0;
    private int wrong = 0;
    private int sentences = 0;
    private int askedBefore = 0;
    private String sentence = "";

    /** Begins the test of a sentence of the document; all that follows up to the next one belongs to it. */
    void sentence(String text) {
        endSentence();
        sentences++;
        sentence = text;
        askedBefore = asked;
    }

    private void endSentence() {
        if (sentences > 0 && asked == askedBefore) {
            tell("nothing was asked");
        }
    }

    private void tell(String what) {
        wrong++;
        if (wrong <= MOST_PRINTED) {
            System.out.println(sentence.isEmpty() ? what : "[" + sentence + "] " + what);
        }
    }

    void same(String call, long got, long want) {
        asked++;
        if (got != want) {
            tell(call + " answered " + got + ", due is " + want);
        }
    }

    void same(String call, boolean got, boolean want) {
        same(call, got ? 1 : 0, want ? 1 : 0);
    }

    void same(String call, String got, String want) {
        asked++;
        if (!got.equals(want)) {
            tell(call + ":\n  is  " + got + "\n  due " + want);
        }
    }

    void holds(String what, boolean holds) {
        same(what, holds, true);
    }

    /** Ends the test: exit code 1 if an answer was wrong. */
    void end(String name) {
        endSentence();
        String about = sentences > 0 ? sentences + " sentences, " : "";
        System.out.println(name + ": " + about + asked + " answers, " + wrong + " wrong");
        if (wrong != 0) {
            System.exit(1);
        }
    }
}
