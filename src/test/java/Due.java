import java.util.function.IntUnaryOperator;

/** Counts answers that are as due and prints those that are not. */
final class Due {
    private int passed = 0;
    private int failed = 0;
    private String sentence = "";
    private int passedBefore = -1;

    /**
     * The document's own words, in the Terms (promise 0) or in a promise, that the next answers are due by.
     * SentencesTest looks for them in the document, and for words of it that no test quotes.
     */
    void says(int promise, String words) {
        looked();
        sentence = (promise == 0 ? "Terms" : "Promise " + promise) + ", \"" + words + "\": ";
        passedBefore = passed + failed;
    }

    /** Words with nothing behind them would be quoted, but not tested. */
    private void looked() {
        if (passedBefore == passed + failed) {
            failed++;
            System.out.println(sentence + "nothing was looked at");
        }
    }

    void is(String call, long got, long want) {
        if (got == want) {
            passed++;
            return;
        }
        failed++;
        System.out.println(sentence + call + " answered " + got + ", due is " + want);
    }

    void is(String call, String got, String want) {
        if (got.equals(want)) {
            passed++;
            return;
        }
        failed++;
        System.out.println(sentence + call + " answered " + got + ", due is " + want);
    }

    void holds(String what, boolean does) {
        is(what, does ? 1 : 0, 1);
    }

    /** A number that must be least .. most: BAD beside them and far away, at both ends another answer. */
    void range(String call, int least, int most, IntUnaryOperator answer) {
        bad(call, answer, least - 1, most + 1, Integer.MIN_VALUE, Integer.MAX_VALUE);
        // What is as told in its lowest bits alone.
        bad(call, answer, least + 256, least - 256, most + 65536, least - 65536, most ^ Integer.MIN_VALUE);
        holds(call + " of " + least + " is not BAD", answer.applyAsInt(least) != ArmSignals.BAD);
        holds(call + " of " + most + " is not BAD", answer.applyAsInt(most) != ArmSignals.BAD);
    }

    void bad(String call, IntUnaryOperator answer, int... numbers) {
        for (int v : numbers) {
            is(call + " of " + v, answer.applyAsInt(v), ArmSignals.BAD);
        }
    }

    void end() {
        looked();
        System.out.println(passed + " passed, " + failed + " failed");
        if (failed != 0 || passed == 0) {
            System.exit(1);
        }
    }

    /** A new object that has read a text. */
    static ArmSignals made(String text) {
        ArmSignals x = new ArmSignals();
        text(x, text);
        return x;
    }

    /** Types a text and reads it. */
    static int text(ArmSignals x, String text) {
        tape(x, text);
        return x.read();
    }

    /** Types a text alone. */
    static void tape(ArmSignals x, String text) {
        for (int i = 0; i < text.length(); i++) {
            x.type(text.charAt(i));
        }
    }

    static int spell(ArmSignals x, String letters) {
        int answer = 0;
        for (int i = 0; i < letters.length(); i++) {
            answer = x.say(letters.charAt(i) - 'a');
        }
        return answer;
    }

    static String message(ArmSignals x) {
        return letters(x, -1);
    }

    /** Costs, THE MESSAGE and the WORDS, as one text. */
    static String all(ArmSignals x) {
        StringBuilder all = new StringBuilder();
        all.append(x.count(2)).append(x.count(3)).append(' ');
        int words = x.count(1);
        for (int k = 0; k < words; k++) {
            all.append(k == 0 ? "" : ",").append(letters(x, k));
        }
        return all.append(':').append(message(x)).toString();
    }

    private static String letters(ArmSignals x, int k) {
        StringBuilder found = new StringBuilder();
        int letter = x.said(k, 0);
        for (int i = 1; letter >= 0; i++) {
            found.append((char) ('a' + letter));
            letter = x.said(k, i);
        }
        return found.toString();
    }

    /** THE DRAW, which stays as it is. */
    static int draw(ArmSignals x) {
        int draw = x.seed(0);
        x.seed(draw);
        return draw;
    }
}
