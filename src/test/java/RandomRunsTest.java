import java.util.Random;

/** All promises: runs of 512 calls drawn by fixed seeds, each answer compared with PlainSignals. */
public final class RandomRunsTest {
    private static final int RUNS = 1500;
    private static final int CALLS = 512;
    private static final int[] EDGES = {Integer.MIN_VALUE, -3, -2, -1, 0, 7, 8, 12, 13, 24, 25, 26, 27, 90, 1 << 20,
        Integer.MAX_VALUE - 1, Integer.MAX_VALUE};

    private final Random random;
    private final ArmSignals x = new ArmSignals();
    private final PlainSignals plain = new PlainSignals();
    private final Due due;
    private final int run;
    // Few letters make like words and words within messages.
    private final int letters;
    private int calls = 0;

    private RandomRunsTest(int run, Due due) {
        this.run = run;
        this.due = due;
        random = new Random(run);
        letters = 1 + random.nextInt(random.nextBoolean() ? 4 : 26);
    }

    public static void main(String[] args) {
        Due due = new Due();
        for (int run = 0; run < RUNS; run++) {
            RandomRunsTest test = new RandomRunsTest(run, due);
            while (test.calls < CALLS) {
                test.next();
            }
        }
        due.end();
    }

    private void is(String call, int got, int want) {
        calls++;
        if (calls <= CALLS) {
            due.is("run " + run + ", call " + calls + ", " + call, got, want);
        }
    }

    /** Mostly one of least .. most, at times beside them or far away. */
    private int about(int least, int most) {
        int kind = random.nextInt(24);
        if (kind == 0) {
            return EDGES[random.nextInt(EDGES.length)];
        }
        if (kind == 1) {
            return random.nextBoolean() ? least - 1 : most + 1;
        }
        return least + random.nextInt(most - least + 1);
    }

    private void next() {
        switch (random.nextInt(16)) {
            case 0: looks(); break;
            case 1: says(); break;
            case 2: says(); break;
            case 3: words(); break;
            case 4: words(); break;
            case 5: efforts(); break;
            case 6: efforts(); break;
            case 7: sights(); break;
            case 8: sights(); break;
            case 9: texts(); break;
            case 10: deeds(); break;
            case 11: deeds(); break;
            case 12: rows(); break;
            case 13: rows(); break;
            case 14: films(); break;
            default: state(); break;
        }
    }

    private void looks() {
        int a = about(0, 26);
        int b = about(0, 26);
        int p = about(0, 7);
        int q = about(0, 7);
        int what = about(0, 2);
        is("sign " + a + " " + what, x.sign(a, what), plain.sign(a, what));
        is("letter " + p + " " + q, x.letter(p, q), plain.letter(p, q));
        is("apart " + a + " " + b, x.apart(a, b), plain.apart(a, b));
    }

    private void says() {
        int letter = random.nextInt(20) == 0 ? about(0, 25) : random.nextInt(letters);
        is("say " + letter, x.say(letter), plain.say(letter));
        if (random.nextInt(3) == 0) {
            is("back", x.back(), plain.back());
        }
    }

    private void words() {
        int k = about(0, 5);
        switch (random.nextInt(5)) {
            case 0: is("lose " + k, x.lose(k), plain.lose(k)); break;
            case 1: is("call " + k, x.call(k), plain.call(k)); break;
            case 2: is("call " + k, x.call(k), plain.call(k)); break;
            default: is("keep", x.keep(), plain.keep()); break;
        }
        if (random.nextInt(4) == 0) {
            int what = about(0, 1);
            int v = about(1, 4);
            is("tell " + what + " " + v, x.tell(what, v), plain.tell(what, v));
        }
    }

    private void efforts() {
        int what = about(0, 3);
        int i = about(0, 11);
        int arm = about(0, 1);
        is("least " + what, x.least(what), plain.least(what));
        is("arm " + i + " " + arm, x.arm(i, arm), plain.arm(i, arm));
        is("brief " + arm, x.brief(arm), plain.brief(arm));
        is("brief " + what, x.brief(what), plain.brief(what));
    }

    private void sights() {
        int what = about(0, 2);
        int k = about(0, 5);
        int c = about(0, 10);
        int part = about(0, 1);
        is("nearest " + what, x.nearest(what), plain.nearest(what));
        is("slips " + what, x.slips(what), plain.slips(what));
        is("slips 2", x.slips(2), plain.slips(2));
        is("still " + k + " " + c + " " + part, x.still(k, c, part), plain.still(k, c, part));
    }

    private void texts() {
        StringBuilder text = new StringBuilder();
        int words = random.nextInt(7);
        int length = 1 + random.nextInt(6);
        for (int k = 0; k < words; k++) {
            text.append(k == 0 ? "" : ",");
            append(text, random.nextInt(3) == 0 ? 1 + random.nextInt(6) : length);
        }
        text.append(':');
        append(text, random.nextBoolean() ? length : random.nextInt(13));
        for (int i = random.nextInt(4) - 1; i > 0; i--) {
            String signs = " ab,,:: z{A";
            int place = random.nextInt(text.length() + 1);
            text.insert(place, signs.charAt(random.nextInt(signs.length())));
        }
        if (random.nextInt(12) == 0) {
            text.setLength(random.nextInt(text.length() + 1));
        }
        for (int i = 0; i < text.length(); i++) {
            is("type", x.type(text.charAt(i)), plain.type(text.charAt(i)));
        }
        int letter = about(32, 126);
        if (random.nextInt(15) == 0) {
            is("type " + letter, x.type(letter), plain.type(letter));
        }
        if (random.nextInt(20) != 0) {
            is("read '" + text + "'", x.read(), plain.read());
        }
    }

    private void append(StringBuilder text, int many) {
        for (int i = 0; i < many; i++) {
            text.append((char) ('a' + random.nextInt(letters)));
            if (random.nextInt(30) == 0) {
                text.append(' ');
            }
        }
    }

    private void deeds() {
        int n = random.nextInt(3) == 0 ? about(1, 40) : 1 + random.nextInt(3);
        int v = random.nextInt(3) == 0 ? random.nextInt() : about(0, 1000);
        switch (random.nextInt(7)) {
            case 0: is("drift " + n, x.drift(n), plain.drift(n)); break;
            case 1: is("seed " + v, x.seed(v), plain.seed(v)); break;
            case 2: is("image", x.image(), plain.image()); break;
            case 3: is("restore", x.restore(), plain.restore()); break;
            default: is("undo", x.undo(), plain.undo()); break;
        }
    }

    private void rows() {
        int sheet = about(0, 3);
        int lane = random.nextInt(3) == 0 ? about(0, 3) : 2;
        int i = about(0, 24);
        switch (random.nextInt(6)) {
            case 0: {
                int n = random.nextBoolean() ? 24 : about(0, 24);
                is("sheet " + sheet + " " + lane + " " + n, x.sheet(sheet, lane, n), plain.sheet(sheet, lane, n));
                break;
            }
            case 1: {
                if (random.nextInt(4) == 0) {
                    is("drop " + sheet, x.drop(sheet), plain.drop(sheet));
                }
                break;
            }
            case 2: {
                int to = about(0, 3);
                int j = about(0, 24);
                int n = random.nextBoolean() ? random.nextInt(6) : about(0, 24);
                is("copy " + sheet + " " + i + " " + to + " " + j + " " + n,
                    x.copy(sheet, i, to, j, n), plain.copy(sheet, i, to, j, n));
                break;
            }
            default: {
                long v = random.nextInt(12) == 0 ? random.nextLong() : random.nextInt(8) + 256L * random.nextInt(2);
                v = random.nextInt(3) == 0 ? v : v & 7;
                is("item " + sheet + " " + lane + " " + i + " " + v, x.item(sheet, lane, i, v), plain.item(sheet, lane, i, v));
                break;
            }
        }
    }

    private void films() {
        int sheet = about(0, 3);
        int lane = random.nextInt(3) == 0 ? about(0, 3) : 2;
        int i = random.nextBoolean() ? random.nextInt(4) : about(0, 24);
        int n = about(1, 6);
        if (random.nextBoolean()) {
            is("film " + sheet + " " + lane + " " + i, x.film(sheet, lane, i), plain.film(sheet, lane, i));
        }
        is("seen " + sheet + " " + lane + " " + i + " " + n, x.seen(sheet, lane, i, n), plain.seen(sheet, lane, i, n));
    }

    private void state() {
        for (int what = 0; what < 6; what++) {
            is("count " + what, x.count(what), plain.count(what));
        }
        int k = about(-1, 5);
        int i = about(0, 6);
        is("said " + k + " " + i, x.said(k, i), plain.said(k, i));
        is("said -1 " + i, x.said(-1, i), plain.said(-1, i));
    }
}
