/** Counts and prints the answers that are not the ones that are due. */
final class Checks {
    private static final int MOST_PRINTED = 40;

    private int asked = 0;
    private int wrong = 0;
    private String sentence = "";
    private int sentences = 0;
    private int askedBefore = 0;

    /** From here on the answers belong to these words of the document; none are left without an answer. */
    void sentence(String words) {
        endSentence();
        sentence = words;
        sentences++;
        askedBefore = asked;
    }

    private void endSentence() {
        if (sentences > 0 && asked == askedBefore) {
            wrong++;
            System.out.println("no answer was asked for: " + sentence);
        }
    }

    void due(String call, long got, long want) {
        asked++;
        if (got != want) {
            wrong++;
            if (wrong <= MOST_PRINTED) {
                System.out.println((sentence.isEmpty() ? "" : "\"" + sentence + "\": ")
                    + call + " answered " + got + ", due is " + want);
            }
        }
    }

    void holds(String what, boolean holds) {
        due(what, holds ? 1 : 0, 1);
    }

    /** Ends the program with code 1 if an answer was wrong. */
    void close(String name) {
        endSentence();
        System.out.println(name + ": " + (sentences > 0 ? sentences + " sentences, " : "")
            + asked + " answers, " + wrong + " not as due");
        if (wrong != 0 || asked == 0) {
            System.exit(1);
        }
    }
}
