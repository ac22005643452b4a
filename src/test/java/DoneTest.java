/** Promises 19 to 25: texts, draws, what is undone, images; sentence by sentence. */
public final class DoneTest {
    private static final int MAX = Integer.MAX_VALUE, MIN = Integer.MIN_VALUE;
    private static final Due due = new Due();

    public static void main(String[] args) {
        type();
        read();
        readFaults();
        drift();
        driftUndone();
        undo();
        undoNone();
        seed();
        image();
        restore();
        restoreAgain();
        due.end();
    }

    private static void type() {
        due.says(19, "One letter more behind THE TAPE: how many it has.");
        ArmSignals x = new ArmSignals();
        due.is("the least letter", x.type(32), 1);
        due.is("the greatest letter", x.type(126), 2);
        for (int i = 3; i <= 90; i++) {
            due.is("one more", x.type('a'), i);
        }
        due.is("nothing is done by it", Due.all(x), "11 :");
        due.is("nothing to be undone", x.count(5), 0);
        due.says(19, "BAD: not 32 .. 126; FULL: 90.");
        due.range("an empty TAPE", 32, 126, l -> new ArmSignals().type(l));
        due.is("a 91st", x.type('a'), ArmSignals.FULL);
        due.is("a 91st, a blank", x.type(' '), ArmSignals.FULL);
        due.range("BAD ahead of FULL", 32, 126, l -> x.type(l));
        due.is("126 is a FAULT, at 1", x.read(), -21);
        due.is("empty then", x.type('a'), 1);
        due.is("what is BAD does not come behind", x.type(127), ArmSignals.BAD);
        due.is("so there are two", x.type(':'), 2);
        // 89 blanks and what is due behind them: what is FULL does not come behind, and takes no other's place.
        ArmSignals y = new ArmSignals();
        Due.tape(y, " ".repeat(89) + ":");
        due.is("a 91st again", y.type('!'), ArmSignals.FULL);
        due.is("the TEXT is as typed", y.read(), 0);
    }

    private static void read() {
        due.says(20, "THE TAPE, which is empty then (by a FAULT, too), is a TEXT: how many LETTERS THE MESSAGE has.");
        ArmSignals x = new ArmSignals();
        x.tell(0, 3);
        due.is("a TEXT", Due.text(x, "ab,c,defghi:xyz"), 3);
        due.is("what it told", Due.all(x), "31 ab,c,defghi:xyz");
        due.is("the TAPE is empty", x.read(), -20);
        due.is("a FAULT", Due.text(x, "a:b:"), -23);
        due.is("the TAPE is empty by a FAULT, too", x.type('q'), 1);
        due.is("q alone is a FAULT at the end", x.read(), -21);
        due.is("empty again", x.read(), -20);
        due.is("no LETTERS", Due.text(x, "a:"), 0);
        due.is("twelve LETTERS", Due.text(x, ":abcdefghijkl"), 12);
        // 41 letters of WORDS and commas, the colon, twelve LETTERS, 36 blanks: 90.
        String most = "abcdef,abcdef,abcdef,abcdef,abcdef,abcdef:abcdefghijkl";
        due.is("all that may be", Due.text(x, " ".repeat(36) + most), 12);
        due.is("all that it told", Due.all(x), "31 " + most);
    }

    private static void readFaults() {
        due.says(20, "A FAULT: -20 less its place (all else stays).");
        ArmSignals x = Due.made("ab,c:xyz");
        x.tell(1, 2);
        due.is("the first place", Due.text(x, "?a:b"), -20);
        due.is("the end of nothing", x.read(), -20);
        due.is("the last place", Due.text(x, " ".repeat(89) + "?"), -109);
        due.is("the end of 90", Due.text(x, " ".repeat(90)), -110);
        // By each of these some of a TEXT stands ahead of the FAULT.
        due.is("behind WORDS", Due.text(x, "q,rs;"), -24);
        due.is("behind THE MESSAGE", Due.text(x, "q:rs;"), -24);
        due.is("a seventh WORD", Due.text(x, "q,r,s,t,u,v,"), -31);
        due.is("a 13th LETTER", Due.text(x, "q:abcdefghijklm"), -34);
        due.is("all else stays", Due.all(x), "12 ab,c:xyz");
        due.is("only what was done is known", x.count(5), 2);
        due.is("the cost", x.undo(), 1);
        due.is("undone", Due.all(x), "11 ab,c:xyz");
        due.is("the TEXT", x.undo(), 0);
        due.is("undone, too", Due.all(x), "11 :");
    }

    private static void drift() {
        due.says(21, "A DRIFT of n turns (1 .. 40; each may be UNDONE, one that changes nothing, too): "
            + "how many LETTERS THE MESSAGE has.");
        ArmSignals x = new ArmSignals();
        // 1 becomes 1103527590: x 16838, left over by 8 is 6, y 2104, left over by 4 is 0: tell(0, 1), refused.
        due.is("a turn that changes nothing", x.drift(1), 0);
        due.is("nothing", Due.all(x), "11 :");
        due.is("may be undone, too", x.count(5), 1);
        due.is("THE DRAW", Due.draw(x), 1103527590);
        // 1103527590 becomes 377401575: x 5758, left over 6, y 719, left over by 4 is 3: tell(0, 4).
        due.is("a cost told", x.drift(1), 0);
        due.is("left", Due.all(x), "41 :");
        // 377401575 becomes 662824084: x 10113, left over 1, y 1264, left over by 26 is 16: say(16).
        due.is("a LETTER said", x.drift(1), 1);
        due.is("which", Due.all(x), "41 :q");
        due.is("three are known", x.undo(), 2);
        due.is("the LETTER undone", Due.all(x), "41 :");
        due.is("and its draw", Due.draw(x), 377401575);
        due.is("the cost undone", x.undo(), 1);
        due.is("back to", Due.all(x), "11 :");
        due.is("what changed nothing undone", x.undo(), 0);
        due.is("but THE DRAW", Due.draw(x), 1);
        due.is("no more", x.undo(), ArmSignals.NONE);
    }

    private static void driftUndone() {
        due.says(21, "(1 .. 40; each may be UNDONE");
        ArmSignals a = Due.made("cat,dog:");
        ArmSignals b = Due.made("cat,dog:");
        int letters = a.drift(40);
        for (int i = 0; i < 40; i++) {
            b.drift(1);
        }
        due.is("how many", letters, b.count(0));
        due.is("forty turns are forty times one", Later.of(a), Later.of(b));
        ArmSignals c = Due.made("cat,dog:");
        c.drift(34);
        String ahead = Due.all(c) + Due.draw(c);
        c.drift(6);
        due.is("six are known", c.count(5), 6);
        for (int i = 5; i >= 0; i--) {
            due.is("undone", c.undo(), i);
        }
        due.is("the six last turns, each by itself", Due.all(c) + Due.draw(c), ahead);
        due.says(21, "BAD.");
        due.range("drift(_)", 1, 40, n -> Due.made("cat,dog:").drift(n));
        due.bad("no turns, or less", n -> c.drift(n), 0, -1, -40, 41, 80, MIN, MAX);
        due.is("refused, all stays", Due.all(c) + Due.draw(c), ahead);
        due.is("nothing is known by it", c.count(5), 0);
    }

    private static void undo() {
        due.says(22, "UNDONE: how many more may be.");
        ArmSignals x = new ArmSignals();
        String[] ahead = new String[9];
        ahead[0] = Due.all(x);
        Due.spell(x, "q");
        ahead[1] = Due.all(x);
        Due.text(x, "ab,c:de");
        ahead[2] = Due.all(x);
        x.keep();
        ahead[3] = Due.all(x);
        x.lose(0);
        ahead[4] = Due.all(x);
        x.call(1);
        ahead[5] = Due.all(x);
        x.tell(1, 4);
        ahead[6] = Due.all(x);
        x.back();
        ahead[7] = Due.all(x);
        x.seed(1103527590);
        x.drift(1);
        due.is("known", x.count(5), 6);
        for (int i = 7; i >= 2; i--) {
            due.is("how many more", x.undo(), i - 2);
            due.is("as many", x.count(5), i - 2);
            due.is("as ahead of it, " + i, Due.all(x), ahead[i]);
        }
        due.is("older ones are lost", x.undo(), ArmSignals.NONE);
        due.is("and nothing changes", Due.all(x), ahead[2]);
        ArmSignals y = new ArmSignals();
        y.say(0);
        due.is("the only one", y.undo(), 0);
        y.say(1);
        y.say(2);
        due.is("one of two", y.undo(), 1);
        y.say(3);
        due.is("what comes behind one undone", Due.message(y), "bd");
        due.is("goes first", y.undo(), 1);
        due.is("then", Due.message(y), "b");
        due.is("what was ahead of it", y.undo(), 0);
        due.is("at last", Due.message(y), "");
    }

    private static void undoNone() {
        due.says(22, "NONE: none is known.");
        ArmSignals x = new ArmSignals();
        due.is("a new object", x.undo(), ArmSignals.NONE);
        due.is("again", x.undo(), ArmSignals.NONE);
        due.is("none less than none", x.count(5), 0);
        x.say(26);
        x.back();
        x.keep();
        x.tell(0, 1);
        x.lose(0);
        x.call(0);
        x.read();
        x.drift(0);
        due.is("what was refused is not known", x.undo(), ArmSignals.NONE);
        x.seed(5);
        x.image();
        x.sheet(0, 0, 2);
        x.item(0, 0, 0, 3);
        x.copy(0, 0, 0, 1, 1);
        x.film(0, 0, 0);
        x.drop(0);
        x.type('a');
        x.restore();
        due.is("nor what can't be undone", x.undo(), ArmSignals.NONE);
        due.is("which stays", x.type('b'), 2);
        due.is("THE DRAW, too", Due.draw(x), 5);
        x.drift(7);
        for (int i = 5; i >= 0; i--) {
            due.is("six of seven", x.undo(), i);
        }
        due.is("not the seventh", x.undo(), ArmSignals.NONE);
        x.drift(2);
        due.is("two more", x.count(5), 2);
    }

    private static void seed() {
        due.says(23, "THE DRAW becomes v: what it was.");
        ArmSignals x = new ArmSignals();
        due.is("at first 1", x.seed(7), 1);
        due.is("then 7", x.seed(MAX), 7);
        due.is("the most", x.seed(0), MAX);
        due.is("0", x.seed(0), 0);
        due.is("0 again", x.seed(3), 0);
        due.is("not to be undone", x.count(5), 0);
        x.seed(0);
        x.drift(1);
        due.is("0 becomes 12345", x.seed(0), 12345);
        due.says(23, "BAD: below 0.");
        x.seed(3);
        due.bad("below 0", v -> x.seed(v), -1, -2, MIN, MIN + 1, -MAX);
        due.is("refused, it stays", x.seed(1), 3);
    }

    private static void image() {
        due.says(24, "All but SHEETS, THE TAPE is kept as an IMAGE (what may be UNDONE, too): 1.");
        ArmSignals x = new ArmSignals();
        due.is("an IMAGE of nothing", x.image(), 1);
        Due.text(x, "ab,c:de");
        x.tell(0, 2);
        x.seed(77);
        x.type('a');
        x.sheet(0, 0, 3);
        due.is("another one", x.image(), 1);
        due.is("by it nothing changes", Due.all(x), "21 ab,c:de");
        due.is("nothing more to be undone", x.count(5), 2);
        due.is("THE TAPE goes on", x.type('b'), 2);
        due.is("SHEETS go on", x.drop(0), 3);
        x.undo();
        x.undo();
        x.seed(5);
        x.restore();
        due.is("the later IMAGE", Due.all(x), "21 ab,c:de");
        due.is("THE DRAW", Due.draw(x), 77);
        due.is("THE TAPE is not of it", x.type('c'), 3);
        due.is("SHEETS are not of it", x.drop(0), ArmSignals.NULL);
        due.is("what may be undone is", x.undo(), 1);
        due.is("the cost", Due.all(x), "11 ab,c:de");
        due.is("and the TEXT", x.undo(), 0);
        due.is("nothing", Due.all(x), "11 :");
        ArmSignals full = Due.made("abcdef,abcdef,abcdef,abcdef,abcdef,abcdef:");
        full.drift(40);
        full.image();
        String then = Due.all(full) + Due.draw(full);
        full.drift(40);
        full.restore();
        due.is("a full one", Due.all(full) + Due.draw(full), then);
        due.is("six are known", full.count(5), 6);
    }

    private static void restore() {
        due.says(25, "All is as it was then: 1.");
        ArmSignals x = Due.made("ab,c:de");
        x.tell(0, 2);
        x.seed(77);
        x.image();
        String then = Due.all(x);
        x.drift(40);
        x.lose(0);
        x.type('z');
        x.sheet(1, 3, 2);
        due.is("restore", x.restore(), 1);
        due.is("as it was then", Due.all(x), then);
        due.is("what may be undone", x.count(5), 2);
        due.is("THE DRAW", Due.draw(x), 77);
        due.is("THE TAPE stays", x.type('z'), 2);
        due.is("SHEETS stay", x.drop(1), 2);
        due.is("undone then", x.undo(), 1);
        due.is("the cost", Due.all(x), "11 ab,c:de");
        due.is("undone again", x.undo(), 0);
        due.is("the TEXT", Due.all(x), "11 :");
        due.says(25, "NONE: there is none.");
        ArmSignals y = Due.made("ab,c:de");
        due.is("none", y.restore(), ArmSignals.NONE);
        due.is("none again", y.restore(), ArmSignals.NONE);
        due.is("refused, all stays", Due.all(y), "11 ab,c:de");
        due.is("what may be undone, too", y.undo(), 0);
        due.is("undone is no IMAGE", y.restore(), ArmSignals.NONE);
    }

    private static void restoreAgain() {
        due.says(25, "All is as it was then: 1.");
        ArmSignals x = Due.made("ab,c:de");
        x.image();
        String then = Due.all(x);
        x.say(0);
        x.image();
        x.undo();
        due.is("undone", Due.all(x), then);
        due.is("an IMAGE is not undone", x.restore(), 1);
        due.is("the later one", Due.all(x), "11 ab,c:dea");
        x.drift(9);
        due.is("once more", x.restore(), 1);
        due.is("as it was then, again", Due.all(x), "11 ab,c:dea");
        due.is("may be undone again", x.undo(), 1);
        due.is("to what was ahead of it", Due.all(x), then);
        x.restore();
        due.is("a third time, unchanged by what was undone", Due.all(x), "11 ab,c:dea");
        due.is("and two may be undone", x.count(5), 2);
    }
}
