/** What tests of the document share: its numbers, objects in a given state, texts, and the count of wrong answers. */
abstract class Given {
    static final int UNKNOWN = -1, OUTSIDE = -2, FULL = -4, NO = -5, NONE = -6;
    static final int F = 0, G = 1, H = 2, K = 3;
    static final int MIN = Integer.MIN_VALUE, MAX = Integer.MAX_VALUE;
    /** For each FUNCTION: its ARGUMENTS, all of them as bits, rows of digits 0 to 7, rows of digits 0 to 8. */
    static final int[] ARGUMENTS = {1, 2, 3, 2};
    static final int[] ALL = {1, 3, 7, 3};
    static final int[] NUMBER_ROWS = {8, 64, 512, 64};
    static final int[] TOLD_ROWS = {9, 81, 729, 81};
    /** Numbers that are no FUNCTION. */
    static final int[] NO_FUNCTIONS = {-1, 4, MIN, MAX};
    /** 15 ones and the 14 acts that add them: 29 signs. */
    static final String ONES = ones(15);

    static final Checks checks = new Checks();

    static void due(String call, long got, long want) {
        checks.due(call, got, want);
    }

    /** A new object with these BODIES; null: it stays as it is. */
    static Subject with(String f, String g, String h, String k) {
        Subject made = new Subject();
        String[] texts = {f, g, h, k};
        for (int function = 0; function < 4; function++) {
            if (texts[function] != null) {
                made.put(function, texts[function]);
            }
        }
        return made;
    }

    /** A new object with one BODY. */
    static Subject with(int function, String text) {
        Subject made = new Subject();
        made.put(function, text);
        return made;
    }

    /** A new object with these signs on its PAD. */
    static Subject withPad(String text) {
        Subject made = new Subject();
        made.write(text);
        return made;
    }

    static int faultOf(String text, int function) {
        return withPad(text).fault(function);
    }

    /** A text that adds these texts, with as few around each as can be. */
    static String sum(String... texts) {
        return sum(texts, 0, texts.length);
    }

    private static String sum(String[] texts, int from, int to) {
        if (to - from == 1) {
            return texts[from];
        }
        int middle = (from + to) / 2;
        return "+" + sum(texts, from, middle) + sum(texts, middle, to);
    }

    /** A text that adds so many ones. */
    static String ones(int count) {
        return sum("1 ".repeat(count).split(" "));
    }

    static String functionName(int function) {
        return "fghk".substring(function, function + 1);
    }
}
