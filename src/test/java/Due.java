/** Counts answers that are as due and prints those that are not. */
final class Due {
    private int passed = 0;
    private int failed = 0;

    void is(String call, long got, long want) {
        if (got == want) {
            passed++;
            return;
        }
        failed++;
        System.out.println(call + " answered " + got + ", due is " + want);
    }

    void holds(String what, boolean does) {
        is(what, does ? 1 : 0, 1);
    }

    void end() {
        System.out.println(passed + " passed, " + failed + " failed");
        if (failed != 0 || passed == 0) {
            System.exit(1);
        }
    }

    /** Types a text and reads it. */
    static int text(ArmSignals x, String text) {
        for (int i = 0; i < text.length(); i++) {
            x.type(text.charAt(i));
        }
        return x.read();
    }

    static int spell(ArmSignals x, String letters) {
        int answer = 0;
        for (int i = 0; i < letters.length(); i++) {
            answer = x.say(letters.charAt(i) - 'a');
        }
        return answer;
    }

    static String message(ArmSignals x) {
        return letters(x, -1);
    }

    /** Costs, THE MESSAGE and the WORDS, as one text. */
    static String all(ArmSignals x) {
        StringBuilder all = new StringBuilder();
        all.append(x.count(2)).append(x.count(3)).append(' ');
        for (int k = 0; k < x.count(1); k++) {
            all.append(k == 0 ? "" : ",").append(letters(x, k));
        }
        return all.append(':').append(message(x)).toString();
    }

    private static String letters(ArmSignals x, int k) {
        StringBuilder found = new StringBuilder();
        for (int i = 0; x.said(k, i) >= 0; i++) {
            found.append((char) ('a' + x.said(k, i)));
        }
        return found.toString();
    }
}
