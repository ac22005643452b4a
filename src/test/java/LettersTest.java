/** Promises 1 to 12: a new object, letters, messages; sentence by sentence. */
public final class LettersTest {
    private static final int MAX = Integer.MAX_VALUE, MIN = Integer.MIN_VALUE;
    private static final String SIX_WORDS = "a,bcdefg,hi,j,kl,mno";

    private static final Due due = new Due();

    public static void main(String[] args) {
        newObject();
        sign();
        letter();
        apart();
        say();
        back();
        keep();
        keepRefused();
        lose();
        call();
        tell();
        said();
        count();
        due.end();
    }

    private static void newObject() {
        due.says(1, "As told.");
        ArmSignals x = new ArmSignals();
        due.is("all", Due.all(x), "11 :");
        due.is("count(5)", x.count(5), 0);
        due.is("undo()", x.undo(), ArmSignals.NONE);
        due.is("restore()", x.restore(), ArmSignals.NONE);
        due.is("read() of an empty TAPE", x.read(), -20);
        due.is("seed(1)", x.seed(1), 1);
        for (int s = 0; s < 4; s++) {
            due.is("drop", x.drop(s), ArmSignals.NULL);
        }
        ArmSignals other = new ArmSignals();
        Due.text(other, "ab:c");
        other.tell(0, 2);
        other.seed(9);
        other.sheet(0, 0, 3);
        other.image();
        other.type('a');
        due.is("another object has nothing to do with it", Later.of(x), Later.of(new ArmSignals()));
    }

    private static void sign() {
        ArmSignals x = new ArmSignals();
        due.says(2, "Of a LETTER: 0 the lesser, 1 the greater DIRECTION, 2 TURNED which LETTER it is (NONE: none).");
        due.is("a, the first, lesser", x.sign(0, 0), 0);
        due.is("a, the first, greater", x.sign(0, 1), 1);
        due.is("z, the last, lesser", x.sign(25, 0), 6);
        due.is("z, the last, greater", x.sign(25, 1), 7);
        due.is("j 4 6 stands ahead of k 1 4, lesser", x.sign(9, 0), 4);
        due.is("j, greater", x.sign(9, 1), 6);
        due.is("a turned is g", x.sign(0, 2), 6);
        due.is("d turned is d", x.sign(3, 2), 3);
        due.is("z turned is h", x.sign(25, 2), 7);
        due.is("l turned is 3 7, no LETTER", x.sign(11, 2), ArmSignals.NONE);
        due.is("t turned is CALL, no LETTER", x.sign(19, 2), ArmSignals.NONE);
        due.says(2, "BAD.");
        for (int what = 0; what < 3; what++) {
            int asked = what;
            due.range("sign(_, " + what + ")", 0, 25, l -> x.sign(l, asked));
        }
        due.range("sign(0, _)", 0, 2, what -> x.sign(0, what));
        due.range("sign(25, _)", 0, 2, what -> x.sign(25, what));
        due.is("CALL is no LETTER", x.sign(26, 0), ArmSignals.BAD);
        due.is("both", x.sign(MIN, MAX), ArmSignals.BAD);
        due.is("BAD ahead of NONE", x.sign(11, 3), ArmSignals.BAD);
    }

    private static void letter() {
        ArmSignals x = new ArmSignals();
        due.says(3, "The LETTER of two DIRECTIONS, in any order; NONE: it's none (CALL: 26).");
        due.is("0 1", x.letter(0, 1), 0);
        due.is("1 0", x.letter(1, 0), 0);
        due.is("6 7", x.letter(6, 7), 25);
        due.is("7 6", x.letter(7, 6), 25);
        due.is("0 7", x.letter(0, 7), 6);
        due.is("3 7", x.letter(3, 7), ArmSignals.NONE);
        due.is("7 3", x.letter(7, 3), ArmSignals.NONE);
        due.is("0 0", x.letter(0, 0), ArmSignals.NONE);
        due.is("7 7", x.letter(7, 7), ArmSignals.NONE);
        due.is("4 5", x.letter(4, 5), 26);
        due.is("5 4", x.letter(5, 4), 26);
        due.says(3, "BAD.");
        for (int p = 0; p < 8; p += 7) {
            int other = p;
            due.range("letter(_, " + p + ")", 0, 7, q -> x.letter(q, other));
            due.range("letter(" + p + ", _)", 0, 7, q -> x.letter(other, q));
        }
        due.is("8 8, BAD ahead of NONE", x.letter(8, 8), ArmSignals.BAD);
        due.is("-1 7", x.letter(-1, 7), ArmSignals.BAD);
    }

    private static void apart() {
        ArmSignals x = new ArmSignals();
        due.says(4, "By how many two LETTERS (26: CALL) are APART.");
        for (int a = 0; a < 27; a++) {
            // No object has more calls than the 512 that are promised.
            ArmSignals y = new ArmSignals();
            due.is("itself " + a, y.apart(a, a), 0);
            for (int b = 0; b < 27; b++) {
                due.is("both ways alike " + a + " " + b, y.apart(a, b), y.apart(b, a));
            }
        }
        due.is("a 0 1, g 0 7", x.apart(0, 6), 2);
        due.is("a 0 1, z 6 7", x.apart(0, 25), 4);
        due.is("a 0 1, CALL 4 5", x.apart(0, 26), 6);
        due.is("CALL 4 5, d 0 4", x.apart(26, 3), 3);
        due.is("h 1 2, n 1 7", x.apart(7, 13), 3);
        due.is("l 1 5, x 5 7", x.apart(11, 23), 2);
        due.says(4, "BAD.");
        due.range("apart(_, 0)", 0, 26, a -> x.apart(a, 0));
        due.range("apart(0, _)", 0, 26, b -> x.apart(0, b));
        due.range("apart(26, _)", 0, 26, b -> x.apart(26, b));
    }

    private static void say() {
        due.says(5, "A LETTER more behind THE MESSAGE: how many there are.");
        ArmSignals x = new ArmSignals();
        for (int i = 0; i < 12; i++) {
            due.is("say " + i, x.say(25 - i), i + 1);
        }
        due.is("what was said", Due.message(x), "zyxwvutsrqpo");
        due.says(5, "BAD; FULL.");
        due.range("say(_)", 0, 25, l -> new ArmSignals().say(l));
        for (int i = 0; i < 3; i++) {
            due.is("a 13th", x.say(0), ArmSignals.FULL);
        }
        due.is("a 13th, the last LETTER", x.say(25), ArmSignals.FULL);
        due.range("BAD ahead of FULL", 0, 25, l -> x.say(l));
        due.is("refused, all stays", Due.all(x), "11 :zyxwvutsrqpo");
        due.is("the last is taken back", x.back(), 14);
        due.is("so there is a place again", x.say(3), 12);
        due.is("and none behind it", x.say(3), ArmSignals.FULL);
        due.is("which", Due.message(x), "zyxwvutsrqpd");
    }

    private static void back() {
        due.says(6, "The last LETTER of THE MESSAGE is taken back: which.");
        ArmSignals x = new ArmSignals();
        Due.spell(x, "zsea");
        due.is("a", x.back(), 0);
        due.is("e", x.back(), 4);
        due.is("left", x.count(0), 2);
        due.is("s", x.back(), 18);
        due.is("z", x.back(), 25);
        due.is("none is left", x.count(0), 0);
        due.says(6, "NONE.");
        due.is("none left", x.back(), ArmSignals.NONE);
        due.is("still none", x.back(), ArmSignals.NONE);
        due.is("nothing below none", x.count(0), 0);
        due.is("the next is the first", x.say(7), 1);
        due.is("a new object", new ArmSignals().back(), ArmSignals.NONE);
        ArmSignals y = Due.made("abc:");
        due.is("WORDS are no LETTERS of THE MESSAGE", y.back(), ArmSignals.NONE);
        due.is("they stay", Due.all(y), "11 abc:");
        due.is("only the TEXT is known", y.count(5), 1);
    }

    private static void keep() {
        due.says(7, "THE MESSAGE becomes a WORD, too: its number.");
        ArmSignals x = new ArmSignals();
        Due.spell(x, "q");
        due.is("one LETTER", x.keep(), 0);
        Due.spell(x, "abcde");
        due.is("six LETTERS", x.keep(), 1);
        due.is("THE MESSAGE stays", Due.all(x), "11 q,qabcde:qabcde");
        x.back();
        due.is("a WORD does not follow THE MESSAGE", Due.all(x), "11 q,qabcde:qabcd");
        for (int i = 2; i < 6; i++) {
            due.is("like ones, " + i, x.keep(), i);
        }
        due.is("six WORDS", Due.all(x), "11 q,qabcde,qabcd,qabcd,qabcd,qabcd:qabcd");
        x.lose(2);
        due.is("behind a loss the last number is free", x.keep(), 5);
    }

    private static void keepRefused() {
        due.says(7, "NOT: it has no LETTERS or more than 6; FULL.");
        ArmSignals x = new ArmSignals();
        due.is("no LETTERS", x.keep(), ArmSignals.NOT);
        due.is("no WORD then", x.count(1), 0);
        Due.spell(x, "abcdefg");
        for (int i = 7; i <= 12; i++) {
            due.is(i + " LETTERS", x.keep(), ArmSignals.NOT);
            x.say(25);
        }
        due.is("no WORD, still", Due.all(x), "11 :abcdefgzzzzz");
        Due.text(x, SIX_WORDS + ":abcdef");
        due.is("a seventh of 6 LETTERS", x.keep(), ArmSignals.FULL);
        Due.text(x, SIX_WORDS + ":p");
        due.is("a seventh of 1 LETTER", x.keep(), ArmSignals.FULL);
        due.is("all stays", Due.all(x), "11 " + SIX_WORDS + ":p");
        Due.text(x, SIX_WORDS + ":");
        due.is("no LETTERS, NOT ahead of FULL", x.keep(), ArmSignals.NOT);
        Due.text(x, SIX_WORDS + ":abcdefg");
        due.is("7 LETTERS, NOT ahead of FULL", x.keep(), ArmSignals.NOT);
        due.is("all stays, too", Due.all(x), "11 " + SIX_WORDS + ":abcdefg");
        x.back();
        x.lose(5);
        due.is("a place again", x.keep(), 5);
        due.is("and none", x.keep(), ArmSignals.FULL);
    }

    private static void lose() {
        due.says(8, "A WORD is lost, those behind get numbers less: how many are left.");
        ArmSignals x = Due.made(SIX_WORDS + ":z");
        due.is("lose(1)", x.lose(1), 5);
        due.is("those behind come up", Due.all(x), "11 a,hi,j,kl,mno:z");
        due.is("the last", x.lose(4), 4);
        due.is("none comes up", Due.all(x), "11 a,hi,j,kl:z");
        due.is("the first", x.lose(0), 3);
        due.is("all come up", Due.all(x), "11 hi,j,kl:z");
        x.lose(0);
        x.lose(0);
        due.is("the only one", x.lose(0), 0);
        due.is("none is left", Due.all(x), "11 :z");
        ArmSignals y = Due.made(SIX_WORDS + ":z");
        due.is("the last of six", y.lose(5), 5);
        due.is("five are left", Due.all(y), "11 a,bcdefg,hi,j,kl:z");
        due.says(8, "BAD.");
        due.is("none to lose", x.lose(0), ArmSignals.BAD);
        due.is("a new object", new ArmSignals().lose(0), ArmSignals.BAD);
        due.range("of six", 0, 5, k -> Due.made(SIX_WORDS + ":z").lose(k));
        due.range("of one", 0, 0, k -> Due.made("a:z").lose(k));
        due.bad("five are left", k -> y.lose(k), 5, 6, -1, MIN, MAX);
        due.is("refused, all stays", Due.all(y), "11 a,bcdefg,hi,j,kl:z");
    }

    private static void call() {
        due.says(9, "The LETTERS of a WORD come behind THE MESSAGE: how many there are.");
        ArmSignals x = Due.made("abcdef,gh,i:");
        due.is("six behind nothing", x.call(0), 6);
        due.is("two behind it", x.call(1), 8);
        due.is("one behind it", x.call(2), 9);
        due.is("which", Due.all(x), "11 abcdef,gh,i:abcdefghi");
        Due.text(x, "abcdef,gh,i:");
        x.call(0);
        due.is("up to 12", x.call(0), 12);
        due.is("twice the same", Due.message(x), "abcdefabcdef");
        due.says(9, "BAD; FULL: not all do.");
        due.is("a new object", new ArmSignals().call(0), ArmSignals.BAD);
        due.range("of three", 0, 2, k -> Due.made("abcdef,gh,i:").call(k));
        due.range("of six", 0, 5, k -> Due.made(SIX_WORDS + ":").call(k));
        due.is("none does", x.call(2), ArmSignals.FULL);
        due.is("of six, none does", x.call(0), ArmSignals.FULL);
        due.range("BAD ahead of FULL", 0, 2, k -> x.call(k));
        x.back();
        due.is("one of two does", x.call(1), ArmSignals.FULL);
        due.is("one of six does", x.call(0), ArmSignals.FULL);
        due.is("but none comes", Due.all(x), "11 abcdef,gh,i:abcdefabcde");
        due.is("one of one does", x.call(2), 12);
        Due.text(x, "abcdef,gh,i:zzzzzzz");
        due.is("five of six do", x.call(0), ArmSignals.FULL);
        due.is("none comes, too", Due.message(x), "zzzzzzz");
        x.back();
        due.is("six of six do", x.call(0), 12);
    }

    private static void tell() {
        due.says(10, "What a STEP of the left arm (what 0), the right one (1) costs becomes v: what it did.");
        ArmSignals x = new ArmSignals();
        due.is("left", x.tell(0, 4), 1);
        due.is("the right one stays", Due.all(x), "41 :");
        due.is("right", x.tell(1, 2), 1);
        due.is("left again", x.tell(0, 3), 4);
        due.is("both", Due.all(x), "32 :");
        due.is("left, the least", x.tell(0, 1), 3);
        due.is("right, the most", x.tell(1, 4), 2);
        due.is("right, the least", x.tell(1, 1), 4);
        due.says(10, "BAD; NOT: it is so.");
        for (int v = 1; v <= 4; v++) {
            x.tell(0, v);
            x.tell(1, v);
            due.is("left is " + v, x.tell(0, v), ArmSignals.NOT);
            due.is("right is " + v, x.tell(1, v), ArmSignals.NOT);
        }
        due.is("a new object, left", new ArmSignals().tell(0, 1), ArmSignals.NOT);
        due.is("a new object, right", new ArmSignals().tell(1, 1), ArmSignals.NOT);
        due.range("tell(_, 2)", 0, 1, what -> new ArmSignals().tell(what, 2));
        due.range("tell(_, 4), which is so", 0, 1, what -> x.tell(what, 4));
        due.range("tell(0, _)", 1, 4, v -> new ArmSignals().tell(0, v));
        due.range("tell(1, _)", 1, 4, v -> new ArmSignals().tell(1, v));
        due.bad("nothing costs 0, or less", v -> x.tell(1, v), 0, -1, -4);
        due.is("refused, all stays", Due.all(x), "44 :");
    }

    private static void said() {
        due.says(11, "LETTER i of THE MESSAGE (k -1), of WORD k.");
        ArmSignals x = Due.made("ab,c,defghi,j,k,mn:xyzabcdefghi");
        due.is("the first of THE MESSAGE", x.said(-1, 0), 23);
        due.is("the 12th of THE MESSAGE", x.said(-1, 11), 8);
        due.is("b", x.said(0, 1), 1);
        due.is("c", x.said(1, 0), 2);
        due.is("the sixth of a WORD", x.said(2, 5), 8);
        due.is("the last WORD", x.said(5, 1), 13);
        due.says(11, "BAD; NONE: not so many.");
        due.range("k, LETTER 0", -1, 5, k -> x.said(k, 0));
        due.range("k, LETTER 99: BAD ahead of NONE", -1, 5, k -> x.said(k, 99));
        due.is("a 13th", x.said(-1, 12), ArmSignals.NONE);
        due.is("behind two", x.said(0, 2), ArmSignals.NONE);
        due.is("behind one", x.said(1, 1), ArmSignals.NONE);
        due.is("behind six", x.said(2, 6), ArmSignals.NONE);
        due.is("behind the last WORD", x.said(5, 2), ArmSignals.NONE);
        due.is("far behind a WORD", x.said(1, MAX), ArmSignals.NONE);
        due.is("far behind THE MESSAGE", x.said(-1, MAX), ArmSignals.NONE);
        due.is("of no LETTERS", new ArmSignals().said(-1, 0), ArmSignals.NONE);
        due.is("of no WORDS", new ArmSignals().said(0, 0), ArmSignals.BAD);
        x.back();
        due.is("what was taken back", x.said(-1, 11), ArmSignals.NONE);
        x.lose(0);
        due.is("a WORD that is lost", x.said(5, 0), ArmSignals.BAD);
        due.says(11, "BAD: also i below 0.");
        due.bad("THE MESSAGE", i -> x.said(-1, i), -1, -2, MIN);
        due.bad("a WORD", i -> x.said(0, i), -1, -2, MIN);
        due.bad("a WORD behind another one", i -> x.said(1, i), -1, -6, MIN);
        due.bad("of no LETTERS", i -> new ArmSignals().said(-1, i), -1, MIN);
    }

    private static void count() {
        due.says(12, "0 LETTERS of THE MESSAGE, 1 WORDS, 2 LEFT, 3 RIGHT, 4 of how many LETTERS of THE MESSAGE "
            + "what is TURNED is a LETTER, 5 what may be UNDONE.");
        ArmSignals x = new ArmSignals();
        int[] atFirst = {0, 0, 1, 1, 0, 0};
        for (int what = 0; what < 6; what++) {
            due.is("a new object, " + what, x.count(what), atFirst[what]);
        }
        Due.text(x, "ab,c,d:tlajt");
        x.tell(0, 2);
        x.tell(1, 3);
        due.is("LETTERS", x.count(0), 5);
        due.is("WORDS", x.count(1), 3);
        due.is("LEFT", x.count(2), 2);
        due.is("RIGHT", x.count(3), 3);
        due.is("turned: a, j, but no t, l", x.count(4), 2);
        due.is("known", x.count(5), 3);
        Due.text(x, "a:tltltltltltl");
        due.is("turned, none of 12", x.count(4), 0);
        Due.text(x, "a,a,a,a,a,a:abcdefghijkm");
        due.is("turned, all of 12", x.count(4), 12);
        due.is("12 LETTERS", x.count(0), 12);
        due.is("six WORDS", x.count(1), 6);
        x.drift(40);
        due.is("six are known", x.count(5), 6);
        due.says(12, "BAD.");
        due.range("count(_)", 0, 5, what -> x.count(what));
        due.range("a new object", 0, 5, what -> new ArmSignals().count(what));
    }
}
