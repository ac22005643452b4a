import java.util.HashMap;
import java.util.Map;
import java.util.function.ToIntFunction;

/**
 * What is refused changes nothing: each refused call is made of an object in some state, and what later calls
 * answer is compared with what they answer of an object in the same state of which it was not made.
 */
public final class RefusedTest {
    private static final int MAX = Integer.MAX_VALUE, MIN = Integer.MIN_VALUE;
    private static final int BAD = ArmSignals.BAD, NOT = ArmSignals.NOT, FULL = ArmSignals.FULL,
        NONE = ArmSignals.NONE, NULL = ArmSignals.NULL, CAST = ArmSignals.CAST, INDEX = ArmSignals.INDEX,
        SIZE = ArmSignals.SIZE;
    private static final String NEW = "new", SOME = "some", MOST = "most", TYPED = "typed";
    private static final String[] ALL = {NEW, SOME, MOST, TYPED};

    private static final Due due = new Due();
    private static final Map<String, String> untouched = new HashMap<>();

    public static void main(String[] args) {
        due.says(0, "What is refused changes nothing, but as told.");
        for (String state : ALL) {
            untouched.put(state, Later.of(made(state)));
        }
        letters();
        words();
        costs();
        efforts();
        done();
        texts();
        rows();
        films();
        copies();
        looks();
        due.end();
    }

    private static ArmSignals made(String state) {
        switch (state) {
            case NEW: return new ArmSignals();
            case SOME: return some();
            case MOST: return most();
            default: return typed();
        }
    }

    /**
     * One WORD, three LETTERS, an IMAGE of another state, five deeds known, some letters typed, three SHEETS.
     * By the turn of the DRIFT the right arm costs 4.
     */
    private static ArmSignals some() {
        ArmSignals x = Due.made("p,q:ta");
        x.seed(5);
        x.image();
        x.call(0);
        x.tell(0, 3);
        x.drift(1);
        x.lose(0);
        Due.tape(x, "v,w:uv");
        x.sheet(0, 0, 4);
        x.sheet(1, 1, 3);
        x.sheet(2, 2, 0);
        for (int i = 0; i < 4; i++) {
            x.item(0, 0, i, i + 1);
            x.item(1, 1, i, 7 - i);
        }
        return x;
    }

    /** Six WORDS, twelve LETTERS, six deeds known, SHEETS of longs. */
    private static ArmSignals most() {
        ArmSignals x = new ArmSignals();
        Due.text(x, "a,bc,d,e,f,gh:zyxwvutsrq");
        x.image();
        x.tell(0, 2);
        x.tell(1, 4);
        x.tell(0, 4);
        x.drift(1);
        x.back();
        Due.text(x, "a,bc,d,e,f,gh:zyxwvutsrqpo");
        x.sheet(0, 3, 2);
        x.sheet(3, 3, 3);
        x.item(3, 3, 1, 6);
        return x;
    }

    /** A TAPE of 90 letters, THE MESSAGE too long for a WORD. */
    private static ArmSignals typed() {
        ArmSignals x = Due.made("ab:hhhhhhh");
        x.seed(MAX);
        Due.tape(x, " ".repeat(80) + "ab,c:defgh");
        x.sheet(1, 2, 3);
        return x;
    }

    private static void refused(String call, int want, ToIntFunction<ArmSignals> how, String... states) {
        for (String state : states) {
            ArmSignals x = made(state);
            due.is(state + ": " + call, how.applyAsInt(x), want);
            due.is(state + ": later, behind " + call, Later.of(x), untouched.get(state));
        }
    }

    private static int[] beside(int least, int most) {
        return new int[] {least - 1, most + 1, MIN, MAX};
    }

    private static void letters() {
        for (int v : beside(0, 25)) {
            refused("say(" + v + ")", BAD, x -> x.say(v), ALL);
            refused("sign(" + v + ", 0)", BAD, x -> x.sign(v, 0), ALL);
        }
        refused("say(3)", FULL, x -> x.say(3), MOST);
        refused("say(0)", FULL, x -> x.say(0), MOST);
        refused("back()", NONE, ArmSignals::back, NEW);
        refused("sign(0, 3)", BAD, x -> x.sign(0, 3), ALL);
        refused("sign(19, 2)", NONE, x -> x.sign(19, 2), ALL);
        for (int v : beside(0, 7)) {
            refused("letter(" + v + ", 0)", BAD, x -> x.letter(v, 0), ALL);
            refused("letter(0, " + v + ")", BAD, x -> x.letter(0, v), ALL);
        }
        refused("letter(3, 7)", NONE, x -> x.letter(3, 7), ALL);
        for (int v : beside(0, 26)) {
            refused("apart(" + v + ", 0)", BAD, x -> x.apart(v, 0), ALL);
            refused("apart(0, " + v + ")", BAD, x -> x.apart(0, v), ALL);
        }
    }

    private static void words() {
        refused("keep()", NOT, ArmSignals::keep, NEW, MOST, TYPED);
        // Six WORDS, and six LETTERS as for a WORD.
        ArmSignals x = Due.made("a,b,c,d,e,f:uvwxyz");
        due.is("keep()", x.keep(), FULL);
        due.is("later, behind keep()", Later.of(x), Later.of(Due.made("a,b,c,d,e,f:uvwxyz")));
        for (int v : beside(0, 5)) {
            refused("lose(" + v + ")", BAD, y -> y.lose(v), ALL);
            refused("call(" + v + ")", BAD, y -> y.call(v), ALL);
            refused("said(" + v + ", 0)", v == -1 ? NONE : BAD, y -> y.said(v, 0), NEW);
            refused("still(" + v + ", 1, 0)", BAD, y -> y.still(v, 1, 0), ALL);
        }
        refused("lose(0)", BAD, y -> y.lose(0), NEW);
        refused("lose(1)", BAD, y -> y.lose(1), SOME, TYPED);
        refused("call(0)", BAD, y -> y.call(0), NEW);
        refused("call(1)", BAD, y -> y.call(1), SOME, TYPED);
        refused("call(0)", FULL, y -> y.call(0), MOST);
        refused("call(5)", FULL, y -> y.call(5), MOST);
        // One of two LETTERS would have a place.
        String text = "ab:uvwxyzuvwxy";
        ArmSignals one = Due.made(text);
        due.is("call(0)", one.call(0), FULL);
        due.is("later, behind call(0)", Later.of(one), Later.of(Due.made(text)));
        refused("said(-1, -1)", BAD, y -> y.said(-1, -1), ALL);
        refused("said(-1, 12)", NONE, y -> y.said(-1, 12), ALL);
        refused("said(0, 6)", NONE, y -> y.said(0, 6), SOME, MOST, TYPED);
    }

    private static void costs() {
        for (int v : beside(1, 4)) {
            refused("tell(0, " + v + ")", BAD, x -> x.tell(0, v), ALL);
            refused("tell(1, " + v + ")", BAD, x -> x.tell(1, v), ALL);
        }
        for (int v : beside(0, 1)) {
            refused("tell(" + v + ", 2)", BAD, x -> x.tell(v, 2), ALL);
            refused("tell(" + v + ", 1)", BAD, x -> x.tell(v, 1), ALL);
        }
        refused("tell(0, 1)", NOT, x -> x.tell(0, 1), NEW, TYPED);
        refused("tell(0, 3)", NOT, x -> x.tell(0, 3), SOME);
        refused("tell(1, 1)", NOT, x -> x.tell(1, 1), NEW, TYPED);
        refused("tell(1, 4)", NOT, x -> x.tell(1, 4), SOME, MOST);
    }

    private static void efforts() {
        for (int v : beside(0, 5)) {
            refused("count(" + v + ")", BAD, x -> x.count(v), ALL);
            refused("least(" + v + ")", BAD, x -> x.least(v), ALL);
            refused("brief(" + v + ")", BAD, x -> x.brief(v), ALL);
            refused("nearest(" + v + ")", BAD, x -> x.nearest(v), ALL);
            refused("slips(" + v + ")", BAD, x -> x.slips(v), ALL);
        }
        for (int v : beside(0, 11)) {
            refused("arm(" + v + ", 0)", BAD, x -> x.arm(v, 0), ALL);
        }
        refused("arm(0, 2)", BAD, x -> x.arm(0, 2), ALL);
        refused("arm(0, -1)", BAD, x -> x.arm(0, -1), ALL);
        refused("nearest(0)", NONE, x -> x.nearest(0), NEW, MOST, TYPED);
        for (int v : beside(0, 10)) {
            refused("still(0, " + v + ", 0)", BAD, x -> x.still(0, v, 0), ALL);
        }
        refused("still(0, 1, 2)", BAD, x -> x.still(0, 1, 2), ALL);
    }

    private static void done() {
        for (int v : beside(1, 40)) {
            refused("drift(" + v + ")", BAD, x -> x.drift(v), ALL);
        }
        refused("undo()", NONE, ArmSignals::undo, NEW);
        refused("seed(-1)", BAD, x -> x.seed(-1), ALL);
        refused("seed(" + MIN + ")", BAD, x -> x.seed(MIN), ALL);
        refused("restore()", NONE, ArmSignals::restore, NEW, TYPED);
        for (int v : beside(32, 126)) {
            refused("type(" + v + ")", BAD, x -> x.type(v), ALL);
        }
        refused("type('a')", FULL, x -> x.type('a'), TYPED);
        refused("type(' ')", FULL, x -> x.type(' '), TYPED);
    }

    /** By a FAULT, THE TAPE is empty then, as told; all else stays. */
    private static void texts() {
        String[] faults = {"", "a", "a,", "a,b,c,d,e,f,", ":abcdefghijklm", "xyz:abc;", "x,y:ab:", "abcdefg", "p,q;"};
        for (String fault : faults) {
            for (String state : ALL) {
                ArmSignals with = made(state);
                ArmSignals without = made(state);
                emptied(with);
                emptied(without);
                due.holds(state + ": a FAULT by '" + fault + "'", Due.text(with, fault) <= -20);
                due.is(state + ": later, behind '" + fault + "'", Later.of(with), Later.of(without));
            }
        }
    }

    /** Whatever was typed goes by a FAULT. */
    private static void emptied(ArmSignals x) {
        if (x.type(':') == FULL) {
            x.read();
        } else {
            Due.text(x, "::");
        }
    }

    private static void rows() {
        for (int v : beside(0, 3)) {
            refused("sheet(" + v + ", 0, 1)", BAD, x -> x.sheet(v, 0, 1), ALL);
            refused("sheet(0, " + v + ", 1)", BAD, x -> x.sheet(0, v, 1), ALL);
            refused("sheet(" + v + ", 0, -1)", BAD, x -> x.sheet(v, 0, -1), ALL);
            refused("drop(" + v + ")", BAD, x -> x.drop(v), ALL);
            refused("item(" + v + ", 0, 0, 1)", BAD, x -> x.item(v, 0, 0, 1), ALL);
            refused("item(0, " + v + ", 0, 1)", BAD, x -> x.item(0, v, 0, 1), ALL);
        }
        for (int s = 0; s < 4; s++) {
            int sheet = s;
            refused("sheet(" + s + ", 0, 25)", BAD, x -> x.sheet(sheet, 0, 25), ALL);
            refused("sheet(" + s + ", 0, " + MAX + ")", BAD, x -> x.sheet(sheet, 0, MAX), ALL);
            refused("sheet(" + s + ", 3, -1)", SIZE, x -> x.sheet(sheet, 3, -1), ALL);
            refused("sheet(" + s + ", 1, " + MIN + ")", SIZE, x -> x.sheet(sheet, 1, MIN), ALL);
            refused("drop(" + s + ")", NULL, x -> x.drop(sheet), NEW);
            refused("item(" + s + ", 0, 0, 1)", NULL, x -> x.item(sheet, 0, 0, 1), NEW);
        }
        refused("drop(3)", NULL, x -> x.drop(3), SOME, TYPED);
        refused("item(0, 1, 0, 7)", CAST, x -> x.item(0, 1, 0, 7), SOME, MOST);
        refused("item(1, 0, 2, 1)", CAST, x -> x.item(1, 0, 2, 1), SOME, TYPED);
        for (int i : new int[] {-1, 4, 5, 24, MIN, MAX}) {
            refused("item(0, 0, " + i + ", 1)", INDEX, x -> x.item(0, 0, i, 1), SOME);
        }
        refused("item(2, 2, 0, 1)", INDEX, x -> x.item(2, 2, 0, 1), SOME);
        refused("item(3, 3, 3, 1)", INDEX, x -> x.item(3, 3, 3, 1), MOST);
    }

    private static void films() {
        for (int v : beside(0, 3)) {
            refused("film(" + v + ", 0, 0)", BAD, x -> x.film(v, 0, 0), ALL);
            refused("film(0, " + v + ", 0)", BAD, x -> x.film(0, v, 0), ALL);
            refused("seen(" + v + ", 0, 0, 1)", BAD, x -> x.seen(v, 0, 0, 1), ALL);
            refused("seen(0, " + v + ", 0, 1)", BAD, x -> x.seen(0, v, 0, 1), ALL);
        }
        for (int v : beside(1, 6)) {
            refused("seen(0, 0, 0, " + v + ")", BAD, x -> x.seen(0, 0, 0, v), ALL);
        }
        refused("film(3, 0, 0)", NULL, x -> x.film(3, 0, 0), NEW, SOME, TYPED);
        refused("film(0, 1, 0)", CAST, x -> x.film(0, 1, 0), SOME, MOST);
        // THE MESSAGE has too many SIGNS: not one item comes.
        for (int i : new int[] {-1, 0, 1, 2, 3, MIN, MAX}) {
            refused("film(1, 1, " + i + ")", INDEX, x -> x.film(1, 1, i), SOME);
            refused("film(3, 3, " + i + ")", INDEX, x -> x.film(3, 3, i), MOST);
            refused("film(1, 2, " + i + ")", INDEX, x -> x.film(1, 2, i), TYPED);
        }
        refused("seen(3, 0, 0, 1)", NULL, x -> x.seen(3, 0, 0, 1), NEW, SOME, TYPED);
        refused("seen(0, 1, 0, 1)", CAST, x -> x.seen(0, 1, 0, 1), SOME, MOST);
        refused("seen(0, 0, 3, 1)", INDEX, x -> x.seen(0, 0, 3, 1), SOME);
        refused("seen(0, 0, 0, 2)", NONE, x -> x.seen(0, 0, 0, 2), SOME);
        refused("seen(0, 3, 0, 1), done", 0, x -> x.seen(0, 3, 0, 1), MOST);
    }

    private static void copies() {
        for (int v : beside(0, 3)) {
            refused("copy(" + v + ", 0, 0, 0, 1)", BAD, x -> x.copy(v, 0, 0, 0, 1), ALL);
            refused("copy(0, 0, " + v + ", 0, 1)", BAD, x -> x.copy(0, 0, v, 0, 1), ALL);
        }
        refused("copy(0, 0, 3, 0, 1)", NULL, x -> x.copy(0, 0, 3, 0, 1), NEW, SOME, TYPED);
        refused("copy(3, 0, 0, 0, 1)", NULL, x -> x.copy(3, 0, 0, 0, 1), NEW, SOME, TYPED);
        refused("copy(0, 0, 1, 0, 1)", CAST, x -> x.copy(0, 0, 1, 0, 1), SOME);
        refused("copy(1, 0, 0, 0, 1)", CAST, x -> x.copy(1, 0, 0, 0, 1), SOME);
        int[][] wrong = {{0, 1, 4}, {1, 0, 4}, {0, 0, 5}, {0, 0, -1}, {-1, 0, 1}, {0, -1, 1}, {0, 0, MAX}, {4, 0, 1}};
        for (int[] w : wrong) {
            refused("copy(0, " + w[0] + ", 0, " + w[1] + ", " + w[2] + ")", INDEX,
                x -> x.copy(0, w[0], 0, w[1], w[2]), SOME);
        }
        refused("copy(3, 0, 0, 0, 3)", INDEX, x -> x.copy(3, 0, 0, 0, 3), MOST);
        refused("copy(3, 1, 0, 1, 2)", INDEX, x -> x.copy(3, 1, 0, 1, 2), MOST);
        refused("copy(0, 0, 3, 0, 3)", INDEX, x -> x.copy(0, 0, 3, 0, 3), MOST);
    }

    /** Calls that only tell something change nothing either, whatever they answer. */
    private static void looks() {
        for (String state : ALL) {
            ArmSignals x = made(state);
            x.sign(3, 2);
            x.letter(2, 6);
            x.apart(26, 0);
            x.said(-1, 0);
            x.count(4);
            x.least(0);
            x.least(2);
            x.arm(0, 1);
            x.brief(0);
            x.brief(1);
            x.nearest(2);
            x.slips(1);
            x.slips(2);
            x.still(0, 3, 0);
            x.seen(0, 0, 0, 2);
            x.seen(0, 3, 0, 1);
            due.is(state + ": later, behind looks", Later.of(x), untouched.get(state));
        }
    }
}
