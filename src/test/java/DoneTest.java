/** Promises 19 to 25: texts, draws, what is undone, images. */
public final class DoneTest {
    private static final Due due = new Due();

    public static void main(String[] args) {
        type();
        read();
        faults();
        drift();
        undo();
        seed();
        image();
        restore();
        due.end();
    }

    private static void type() {
        ArmSignals x = new ArmSignals();
        due.is("19 31", x.type(31), ArmSignals.BAD);
        due.is("19 127", x.type(127), ArmSignals.BAD);
        due.is("19 -1", x.type(-1), ArmSignals.BAD);
        due.is("19 32", x.type(32), 1);
        due.is("19 126", x.type(126), 2);
        for (int i = 3; i <= 90; i++) {
            due.is("19 one more", x.type('a'), i);
        }
        due.is("19 a 91st", x.type('a'), ArmSignals.FULL);
        due.is("19 BAD ahead of FULL", x.type(127), ArmSignals.BAD);
        due.is("19 not to be undone", x.count(5), 0);
        due.is("19 126 is a FAULT", x.read(), -21);
        due.is("19 empty then", x.type('a'), 1);
    }

    private static void read() {
        ArmSignals x = new ArmSignals();
        x.tell(0, 3);
        due.is("20 a TEXT", Due.text(x, "ab,c,defghi:xyz"), 3);
        due.holds("20 what it told", Due.all(x).equals("31 ab,c,defghi:xyz"));
        due.is("20 the TAPE is empty", x.read(), -20);
        due.is("20 a FAULT", Due.text(x, "a:b:"), -23);
        due.is("20 the TAPE is empty by a FAULT, too", x.type('q'), 1);
        x.read();
        due.holds("20 by a FAULT all stays", Due.all(x).equals("31 ab,c,defghi:xyz"));
        due.is("20 only what was read is known", x.count(5), 2);
        due.is("20 blanks", Due.text(x, "  a b , c:  d  e "), 2);
        due.holds("20 blanks count for nothing", Due.all(x).equals("31 ab,c:de"));
        due.is("20 WORDS alone", Due.text(x, "a,a:"), 0);
        due.holds("20 like WORDS", Due.all(x).equals("31 a,a:"));
        due.is("20 nothing at all", Due.text(x, ":"), 0);
        due.holds("20 nothing then", Due.all(x).equals("31 :"));
        due.is("20 all that may be", Due.text(x, "abcdef,abcdef,abcdef,abcdef,abcdef,abcdef:abcdefghijkl"), 12);
        due.is("20 six WORDS", x.count(1), 6);
    }

    private static void faults() {
        String[] texts = {"", "   ", "a", "abc", "abc ", "abc,", "abc, ", ",a:", "  ,a:", "a,,b:", "a, ,b:", "a,:b",
            "abcdefg:", "abcdef g:", "a,b,c,d,e,f,g:", "a,b,c,d,e,f ,", "a:b,", "a:b:", "::", ":abcdefghijklm",
            ":abcdefghijkl m", "A:", "a;b:", ":a1", ":a{", ":a`", "a:b-", "a,B:", "~", ": abcdefghijkl ,"};
        int[] places = {0, 3, 1, 3, 4, 4, 5, 0, 2, 2, 3, 2,
            6, 7, 11, 12, 3, 3, 1, 13,
            14, 0, 1, 2, 2, 2, 3, 2, 0, 15};
        ArmSignals x = new ArmSignals();
        for (int i = 0; i < texts.length; i++) {
            due.is("20 '" + texts[i] + "'", Due.text(x, texts[i]), -20 - places[i]);
        }
        due.is("20 FAULTS are not known", x.count(5), 0);
    }

    private static void drift() {
        ArmSignals x = new ArmSignals();
        due.is("21 drift(0)", x.drift(0), ArmSignals.BAD);
        due.is("21 drift(41)", x.drift(41), ArmSignals.BAD);
        due.is("21 drift(-1)", x.drift(-1), ArmSignals.BAD);
        due.is("21 BAD changes nothing", x.seed(1), 1);
        // 1 becomes 1103527590: x 16838, left over by 8 is 6, y 2104, left over by 4 is 0: tell(0, 1), refused.
        due.is("21 a turn that changes nothing", x.drift(1), 0);
        due.is("21 may be undone, too", x.count(5), 1);
        due.is("21 THE DRAW", x.seed(1103527590), 1103527590);
        // 1103527590 becomes 377401575: x 5758, left over 6, y 719, left over by 4 is 3: tell(0, 4).
        x.drift(1);
        due.is("21 a cost told", x.count(2), 4);
        due.is("21 THE DRAW again", x.seed(377401575), 377401575);
        // 377401575 becomes 662824084: x 10113, left over 1, y 1264, left over by 26 is 16: say(16).
        due.is("21 a LETTER said", x.drift(1), 1);
        due.is("21 which", x.said(-1, 0), 16);
        ArmSignals a = new ArmSignals();
        ArmSignals b = new ArmSignals();
        Due.text(a, "cat,dog:");
        Due.text(b, "cat,dog:");
        a.drift(40);
        for (int i = 0; i < 40; i++) {
            b.drift(1);
        }
        due.holds("21 forty turns are forty times one", Due.all(a).equals(Due.all(b)));
        due.is("21 THE DRAW of both", a.seed(0), b.seed(0));
        due.is("21 six are known", a.count(5), 6);
    }

    private static void undo() {
        ArmSignals x = new ArmSignals();
        due.is("22 none", x.undo(), ArmSignals.NONE);
        String[] ahead = new String[9];
        ahead[0] = Due.all(x);
        Due.spell(x, "q");
        ahead[1] = Due.all(x);
        Due.text(x, "ab,c:de");
        ahead[2] = Due.all(x);
        x.keep();
        ahead[3] = Due.all(x);
        x.lose(0);
        ahead[4] = Due.all(x);
        x.call(1);
        ahead[5] = Due.all(x);
        x.tell(1, 4);
        ahead[6] = Due.all(x);
        x.back();
        ahead[7] = Due.all(x);
        x.seed(1103527590);
        x.drift(1);
        due.is("22 known", x.count(5), 6);
        for (int i = 7; i >= 2; i--) {
            due.is("22 how many more", x.undo(), i - 2);
            due.holds("22 as ahead of it, " + i, Due.all(x).equals(ahead[i]));
        }
        due.is("22 older ones are lost", x.undo(), ArmSignals.NONE);
        due.holds("22 and nothing changes", Due.all(x).equals(ahead[2]));
        due.is("22 THE DRAW, too, whatever was told since", x.seed(5), 1);
        x.say(0);
        x.seed(9);
        x.undo();
        due.is("22 THE DRAW as ahead of a LETTER", x.seed(1), 5);
        x.say(0);
        x.sheet(0, 0, 3);
        x.type('a');
        x.undo();
        due.is("22 the TAPE stays", x.type('b'), 2);
        due.is("22 SHEETS stay", x.drop(0), 3);
        x.say(2);
        x.say(3);
        String said = Due.message(x);
        x.say(4);
        x.undo();
        due.holds("22 a LETTER said", Due.message(x).equals(said));
        x.undo();
        x.undo();
        x.say(26);
        due.is("22 what is refused is not known", x.count(5), 0);
        x.drift(6);
        x.undo();
        x.undo();
        x.drift(3);
        due.is("22 again six", x.count(5), 6);
    }

    private static void seed() {
        ArmSignals x = new ArmSignals();
        due.is("23 at first 1", x.seed(7), 1);
        due.is("23 then 7", x.seed(Integer.MAX_VALUE), 7);
        due.is("23 below 0", x.seed(-1), ArmSignals.BAD);
        due.is("23 least", x.seed(Integer.MIN_VALUE), ArmSignals.BAD);
        due.is("23 the most", x.seed(0), Integer.MAX_VALUE);
        due.is("23 0", x.seed(0), 0);
        due.is("23 not to be undone", x.count(5), 0);
        x.drift(1);
        due.is("23 0 becomes 12345", x.seed(0), 12345);
    }

    private static void image() {
        ArmSignals x = new ArmSignals();
        due.is("24 an IMAGE of nothing", x.image(), 1);
        Due.text(x, "ab,c:de");
        x.tell(0, 2);
        x.seed(77);
        due.is("24 another one", x.image(), 1);
        due.is("24 not to be undone", x.count(5), 2);
        x.undo();
        x.undo();
        x.restore();
        due.holds("24 the later IMAGE", Due.all(x).equals("21 ab,c:de"));
    }

    private static void restore() {
        ArmSignals x = new ArmSignals();
        due.is("25 none", x.restore(), ArmSignals.NONE);
        Due.text(x, "ab,c:de");
        x.tell(0, 2);
        x.seed(77);
        x.image();
        String then = Due.all(x);
        x.drift(40);
        x.lose(0);
        x.type('z');
        x.sheet(1, 3, 2);
        due.is("25 restore", x.restore(), 1);
        due.holds("25 as it was then", Due.all(x).equals(then));
        due.is("25 what may be undone", x.count(5), 2);
        due.is("25 THE DRAW", x.seed(77), 77);
        due.is("25 the TAPE stays", x.type('z'), 2);
        due.is("25 SHEETS stay", x.drop(1), 2);
        due.is("25 undone then", x.undo(), 1);
        due.holds("25 cost", Due.all(x).equals("11 ab,c:de"));
        due.is("25 undone again", x.undo(), 0);
        due.holds("25 text", Due.all(x).equals("11 :"));
        due.is("25 once more", x.restore(), 1);
        due.holds("25 as it was then, again", Due.all(x).equals(then));
        due.is("25 may be undone again", x.count(5), 2);
    }
}
