/** Promises 1 to 12: a new object, letters, messages. */
public final class LettersTest {
    private static final int[] SIGNS = {
        1, 2, 3, 4, 5, 6, 7, 12, 13, 46, 14, 15, 16, 17, 23, 24, 25, 26, 27, 34, 35, 47, 56, 57, 36, 67};

    private static final Due due = new Due();

    public static void main(String[] args) {
        newObject();
        sign();
        letter();
        apart();
        say();
        back();
        keep();
        lose();
        call();
        tell();
        said();
        count();
        due.end();
    }

    private static void newObject() {
        ArmSignals x = new ArmSignals();
        due.holds("1 nothing said, costs of 1", Due.all(x).equals("11 :"));
        due.is("1 count(5)", x.count(5), 0);
        due.is("1 undo()", x.undo(), ArmSignals.NONE);
        due.is("1 restore()", x.restore(), ArmSignals.NONE);
        due.is("1 read()", x.read(), -20);
        due.is("1 seed(1)", x.seed(1), 1);
        for (int s = 0; s < 4; s++) {
            due.is("1 drop", x.drop(s), ArmSignals.NULL);
        }
    }

    private static void sign() {
        ArmSignals x = new ArmSignals();
        for (int l = 0; l < 26; l++) {
            due.is("2 lesser of " + l, x.sign(l, 0), SIGNS[l] / 10);
            due.is("2 greater of " + l, x.sign(l, 1), SIGNS[l] % 10);
        }
        // Checked by hand: 8 less p for each DIRECTION.
        due.is("2 a turned is g", x.sign(0, 2), 6);
        due.is("2 b turned is f", x.sign(1, 2), 5);
        due.is("2 c turned is e", x.sign(2, 2), 4);
        due.is("2 d turned is d", x.sign(3, 2), 3);
        due.is("2 h turned is z", x.sign(7, 2), 25);
        due.is("2 i turned is x", x.sign(8, 2), 23);
        due.is("2 j turned is p", x.sign(9, 2), 15);
        due.is("2 k turned is v", x.sign(10, 2), 21);
        due.is("2 l turned is 3 7, no letter", x.sign(11, 2), ArmSignals.NONE);
        due.is("2 n turned is n", x.sign(13, 2), 13);
        due.is("2 t turned is CALL, no letter", x.sign(19, 2), ArmSignals.NONE);
        due.is("2 u turned is u", x.sign(20, 2), 20);
        due.is("2 z turned is h", x.sign(25, 2), 7);
        due.is("2 sign(26, 0)", x.sign(26, 0), ArmSignals.BAD);
        due.is("2 sign(-1, 2)", x.sign(-1, 2), ArmSignals.BAD);
        due.is("2 sign(0, -1)", x.sign(0, -1), ArmSignals.BAD);
        due.is("2 sign(0, 3)", x.sign(0, 3), ArmSignals.BAD);
        due.is("2 sign(least int)", x.sign(Integer.MIN_VALUE, Integer.MAX_VALUE), ArmSignals.BAD);
    }

    private static void letter() {
        ArmSignals x = new ArmSignals();
        for (int p = 0; p < 8; p++) {
            for (int q = 0; q < 8; q++) {
                due.is("3 letter(" + p + ", " + q + ")", x.letter(p, q), letterOf(p, q));
            }
        }
        due.is("3 CALL", x.letter(5, 4), 26);
        due.is("3 letter(8, 0)", x.letter(8, 0), ArmSignals.BAD);
        due.is("3 letter(0, 8)", x.letter(0, 8), ArmSignals.BAD);
        due.is("3 letter(-1, 0)", x.letter(-1, 0), ArmSignals.BAD);
        due.is("3 letter(0, -1)", x.letter(0, -1), ArmSignals.BAD);
    }

    private static int letterOf(int p, int q) {
        int pair = 10 * Math.min(p, q) + Math.max(p, q);
        for (int l = 0; l < 26; l++) {
            if (SIGNS[l] == pair) {
                return l;
            }
        }
        return pair == 45 ? 26 : ArmSignals.NONE;
    }

    private static void apart() {
        ArmSignals x = new ArmSignals();
        due.is("4 a, a", x.apart(0, 0), 0);
        due.is("4 a 0 1, g 0 7", x.apart(0, 6), 2);
        due.is("4 a 0 1, z 6 7", x.apart(0, 25), 4);
        due.is("4 crossed: a 0 1, CALL 4 5", x.apart(0, 26), 6);
        due.is("4 CALL 4 5, d 0 4", x.apart(26, 3), 3);
        due.is("4 h 1 2, n 1 7", x.apart(7, 13), 3);
        due.is("4 crossed: l 1 5, x 5 7", x.apart(11, 23), 2);
        due.is("4 CALL, CALL", x.apart(26, 26), 0);
        for (int a = 0; a < 27; a++) {
            due.is("4 both ways alike", x.apart(a, 7), x.apart(7, a));
        }
        due.is("4 apart(27, 0)", x.apart(27, 0), ArmSignals.BAD);
        due.is("4 apart(0, 27)", x.apart(0, 27), ArmSignals.BAD);
        due.is("4 apart(-1, 0)", x.apart(-1, 0), ArmSignals.BAD);
        due.is("4 apart(0, -1)", x.apart(0, -1), ArmSignals.BAD);
    }

    private static void say() {
        ArmSignals x = new ArmSignals();
        for (int i = 0; i < 12; i++) {
            due.is("5 say", x.say(25 - i), i + 1);
        }
        due.is("5 a 13th", x.say(0), ArmSignals.FULL);
        due.is("5 BAD ahead of FULL", x.say(26), ArmSignals.BAD);
        due.is("5 below 0", x.say(-1), ArmSignals.BAD);
        due.holds("5 what was said", Due.message(x).equals("zyxwvutsrqpo"));
        due.is("5 count(5)", x.count(5), 6);
    }

    private static void back() {
        ArmSignals x = new ArmSignals();
        due.is("6 nothing", x.back(), ArmSignals.NONE);
        due.is("6 refused, so not known", x.count(5), 0);
        Due.spell(x, "sea");
        due.is("6 a", x.back(), 0);
        due.is("6 e", x.back(), 4);
        due.is("6 left", x.count(0), 1);
        due.is("6 s", x.back(), 18);
        due.is("6 none left", x.back(), ArmSignals.NONE);
        due.is("6 known", x.count(5), 6);
    }

    private static void keep() {
        ArmSignals x = new ArmSignals();
        due.is("7 nothing to keep", x.keep(), ArmSignals.NOT);
        Due.spell(x, "abcdef");
        due.is("7 six letters", x.keep(), 0);
        due.is("7 the message stays", x.count(0), 6);
        x.say(6);
        due.is("7 seven letters", x.keep(), ArmSignals.NOT);
        x.back();
        x.back();
        for (int i = 1; i < 6; i++) {
            due.is("7 keep " + i, x.keep(), i);
        }
        due.is("7 a seventh", x.keep(), ArmSignals.FULL);
        due.holds("7 words", Due.all(x).equals("11 abcdef,abcde,abcde,abcde,abcde,abcde:abcde"));
        Due.spell(x, "zz");
        due.is("7 NOT ahead of FULL", x.keep(), ArmSignals.NOT);
    }

    private static void lose() {
        ArmSignals x = new ArmSignals();
        due.is("8 none", x.lose(0), ArmSignals.BAD);
        Due.text(x, "a,bcdefg,hi,j,kl,mno:z");
        due.is("8 lose(6)", x.lose(6), ArmSignals.BAD);
        due.is("8 lose(-1)", x.lose(-1), ArmSignals.BAD);
        due.is("8 lose(1)", x.lose(1), 5);
        due.holds("8 those behind come up", Due.all(x).equals("11 a,hi,j,kl,mno:z"));
        due.is("8 the last", x.lose(4), 4);
        due.is("8 the first", x.lose(0), 3);
        due.holds("8 left", Due.all(x).equals("11 hi,j,kl:z"));
        due.is("8 lose(3)", x.lose(3), ArmSignals.BAD);
        due.is("8 known", x.count(5), 4);
    }

    private static void call() {
        ArmSignals x = new ArmSignals();
        due.is("9 none", x.call(0), ArmSignals.BAD);
        Due.text(x, "abcde,fg,h:");
        due.is("9 behind nothing", x.call(0), 5);
        due.is("9 behind it", x.call(1), 7);
        due.is("9 once more", x.call(0), 12);
        due.holds("9 letters", Due.message(x).equals("abcdefgabcde"));
        due.is("9 full", x.call(2), ArmSignals.FULL);
        due.is("9 BAD ahead", x.call(3), ArmSignals.BAD);
        x.back();
        due.is("9 not both do", x.call(1), ArmSignals.FULL);
        due.is("9 refused changes nothing", x.count(0), 11);
        due.is("9 one does", x.call(2), 12);
        due.is("9 call(-1)", x.call(-1), ArmSignals.BAD);
    }

    private static void tell() {
        ArmSignals x = new ArmSignals();
        due.is("10 so already", x.tell(0, 1), ArmSignals.NOT);
        due.is("10 left", x.tell(0, 4), 1);
        due.is("10 right", x.tell(1, 2), 1);
        due.is("10 left again", x.tell(0, 3), 4);
        due.is("10 count(2)", x.count(2), 3);
        due.is("10 count(3)", x.count(3), 2);
        due.is("10 what 2", x.tell(2, 1), ArmSignals.BAD);
        due.is("10 what -1", x.tell(-1, 1), ArmSignals.BAD);
        due.is("10 v 0", x.tell(0, 0), ArmSignals.BAD);
        due.is("10 v 5", x.tell(1, 5), ArmSignals.BAD);
        due.is("10 known", x.count(5), 3);
    }

    private static void said() {
        ArmSignals x = new ArmSignals();
        Due.text(x, "ab,c:xyz");
        due.is("11 x", x.said(-1, 0), 23);
        due.is("11 z", x.said(-1, 2), 25);
        due.is("11 behind", x.said(-1, 3), ArmSignals.NONE);
        due.is("11 b", x.said(0, 1), 1);
        due.is("11 behind a word", x.said(0, 2), ArmSignals.NONE);
        due.is("11 c", x.said(1, 0), 2);
        due.is("11 far behind a word", x.said(1, Integer.MAX_VALUE), ArmSignals.NONE);
        due.is("11 no such word", x.said(2, 0), ArmSignals.BAD);
        due.is("11 k -2", x.said(-2, 0), ArmSignals.BAD);
        due.is("11 i -1", x.said(-1, -1), ArmSignals.BAD);
        due.is("11 word, i -1", x.said(0, -1), ArmSignals.BAD);
        due.is("11 BAD ahead of NONE", x.said(2, 9), ArmSignals.BAD);
    }

    private static void count() {
        ArmSignals x = new ArmSignals();
        Due.text(x, "ab,c:atlj");
        x.tell(0, 2);
        x.tell(1, 3);
        due.is("12 letters", x.count(0), 4);
        due.is("12 words", x.count(1), 2);
        due.is("12 left", x.count(2), 2);
        due.is("12 right", x.count(3), 3);
        due.is("12 turned: a, j", x.count(4), 2);
        due.is("12 known", x.count(5), 3);
        due.is("12 count(6)", x.count(6), ArmSignals.BAD);
        due.is("12 count(-1)", x.count(-1), ArmSignals.BAD);
    }
}
