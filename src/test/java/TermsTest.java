/** The Terms: the answers below 0 and their order, and 1, letters and messages; sentence by sentence. */
public final class TermsTest {
    private static final String TABLE = "a 0 1, b 0 2, c 0 3, d 0 4, e 0 5, f 0 6, g 0 7, h 1 2, i 1 3, j 4 6, k 1 4, "
        + "l 1 5, m 1 6, n 1 7, o 2 3, p 2 4, q 2 5, r 2 6, s 2 7, t 3 4, u 3 5, v 4 7, w 5 6, x 5 7, y 3 6, z 6 7.";
    private static final int BAD = ArmSignals.BAD, NOT = ArmSignals.NOT, NONE = ArmSignals.NONE,
        NULL = ArmSignals.NULL, CAST = ArmSignals.CAST, INDEX = ArmSignals.INDEX;

    private static final Due due = new Due();

    public static void main(String[] args) {
        numbers();
        badFirst();
        firstNamed();
        machineOrder();
        indexOfNoItem();
        directions();
        steps();
        signs();
        otherSigns();
        turned();
        apart();
        message();
        words();
        costs();
        arms();
        effort();
        theWay();
        due.end();
    }

    /** WORDS of each length but 3, a SHEET 0 of four bytes (the last is 8), a SHEET 1 of ints, no other SHEETS. */
    private static ArmSignals held() {
        ArmSignals x = Due.made("a,bb,cccc,ddddd,eeeeee:zz");
        x.sheet(0, 0, 4);
        x.item(0, 0, 3, 8);
        x.sheet(1, 2, 4);
        return x;
    }

    private static void numbers() {
        due.says(0, "BAD -1 (a number is not as told, there is no such thing), NOT -2 (as told), FULL -3, NONE -4 (as told), "
            + "CAST -12 (of SHEETS another LANE); what the machine finds: NULL -11, INDEX -13, SIZE -14");
        ArmSignals x = held();
        due.is("a number is not as told", x.say(26), -1);
        due.is("there is no such WORD", x.lose(5), -1);
        due.is("NOT", x.tell(0, 1), -2);
        due.is("FULL", Due.made(":aaaaaaaaaaaa").say(0), -3);
        due.is("NONE", new ArmSignals().back(), -4);
        due.is("CAST", x.item(0, 1, 0, 0), -12);
        due.is("CAST to a wider LANE", x.item(1, 3, 0, 0), -12);
        due.is("CAST to a narrower LANE", x.item(1, 1, 0, 0), -12);
        due.is("NULL", x.drop(2), -11);
        due.is("INDEX", x.item(0, 0, 4, 0), -13);
        due.is("SIZE", x.sheet(0, 0, -1), -14);
    }

    private static void badFirst() {
        due.says(0, "Answers below 0, of several BAD ahead of all others,");
        ArmSignals full = Due.made("a,b,c,d,e,f:abcdefghijkl");
        due.is("say, FULL", full.say(26), BAD);
        due.is("call, FULL", full.call(6), BAD);
        due.is("said, NONE", full.said(6, 12), BAD);
        due.is("said, i below 0 of no LETTERS", new ArmSignals().said(-1, -1), BAD);
        due.is("nearest, NONE", full.nearest(3), BAD);
        due.is("sign, NONE", full.sign(19, -1), BAD);
        due.is("letter, NONE", full.letter(-1, -1), BAD);
        due.is("tell, NOT", full.tell(2, 1), BAD);
        Due.tape(full, " ".repeat(90));
        due.is("type, FULL", full.type(31), BAD);
        ArmSignals x = held();
        due.is("seen, NULL", x.seen(2, 4, 0, 1), BAD);
        due.is("seen, NULL, by n", x.seen(2, 0, 0, 0), BAD);
        due.is("seen, CAST", x.seen(0, 2, 0, 7), BAD);
        due.is("seen, INDEX", x.seen(0, 0, 9, 7), BAD);
        due.is("seen, NOT", x.seen(0, 0, 2, 0), BAD);
        due.is("film, NULL", x.film(2, 4, 0), BAD);
        due.is("film, INDEX", x.film(0, -1, -1), BAD);
        due.is("sheet, SIZE", x.sheet(4, 0, -1), BAD);
        due.is("sheet, SIZE, by lane", x.sheet(0, 4, -1), BAD);
        due.is("item, NULL", x.item(2, 4, 0, 0), BAD);
        due.is("item, INDEX", x.item(0, 4, 4, 0), BAD);
        due.is("copy, NULL", x.copy(2, 0, 4, 0, 1), BAD);
        due.is("copy, NULL, too", x.copy(-1, 0, 2, 0, 1), BAD);
        due.is("copy, INDEX", x.copy(0, -1, 4, 0, -1), BAD);
    }

    private static void firstNamed() {
        due.says(0, "then the first that a call names:");
        due.is("keep, no LETTERS and six WORDS", Due.made("a,b,c,d,e,f:").keep(), NOT);
        due.is("keep, 7 LETTERS and six WORDS", Due.made("a,b,c,d,e,f:abcdefg").keep(), NOT);
        ArmSignals x = held();
        due.is("seen, INDEX and no DIRECTION", x.seen(0, 0, 3, 1), INDEX);
        due.is("seen, CAST and no DIRECTION", x.seen(0, 3, 2, 1), CAST);
        due.is("seen, CAST and INDEX", x.seen(0, 3, 3, 1), CAST);
        due.is("seen, NULL and INDEX", x.seen(2, 3, 30, 1), NULL);
        // NONE is what the search for a WORD answers: it comes behind all by which there is no search.
        due.is("seen, NULL and no WORD of 3", x.seen(2, 0, 0, 3), NULL);
        due.is("seen, CAST and no WORD of 3", x.seen(0, 1, 0, 3), CAST);
        due.is("seen, INDEX and no WORD of 3", x.seen(0, 0, 0, 3), INDEX);
        x.sheet(3, 0, 6);
        due.is("seen, no WORD of 3", x.seen(3, 0, 0, 3), NONE);
        x.item(3, 0, 5, 8);
        due.is("seen, no DIRECTION and no WORD of 3", x.seen(3, 0, 0, 3), NOT);
    }

    private static void machineOrder() {
        due.says(0, "(NULL, CAST, INDEX, SIZE in this order;");
        ArmSignals x = held();
        due.is("film, NULL and INDEX", x.film(2, 0, -1), NULL);
        due.is("film, CAST and INDEX", x.film(0, 1, -1), CAST);
        due.is("item, NULL and INDEX", x.item(2, 0, 24, 0), NULL);
        due.is("item, CAST and INDEX", x.item(0, 1, 4, 0), CAST);
        due.is("copy, from nothing and INDEX", x.copy(2, 0, 0, 0, -1), NULL);
        due.is("copy, to nothing and INDEX", x.copy(0, -1, 2, 0, 1), NULL);
        due.is("copy, CAST and INDEX of n", x.copy(0, 0, 1, 0, -1), CAST);
        due.is("copy, CAST and INDEX of i", x.copy(0, 5, 1, 0, 0), CAST);
        due.is("copy, CAST and INDEX of j", x.copy(0, 0, 1, -1, 0), CAST);
    }

    private static void indexOfNoItem() {
        due.says(0, "INDEX also where no item is taken, if i, j is below 0, or above how many there are).");
        ArmSignals x = new ArmSignals();
        for (int n = 0; n <= 24; n += 8) {
            x.sheet(0, 0, n);
            x.sheet(1, 0, 24 - n);
            for (int i = -2; i <= 26; i++) {
                due.is("film, " + i + " of " + n, x.film(0, 0, i), i < 0 || i > n ? INDEX : 0);
                due.is("copy, i " + i + " of " + n, x.copy(0, i, 1, 0, 0), i < 0 || i > n ? INDEX : 0);
                due.is("copy, j " + i + " of " + (24 - n), x.copy(0, 0, 1, i, 0), i < 0 || i > 24 - n ? INDEX : 0);
            }
        }
        due.is("film, i least", x.film(0, 0, Integer.MIN_VALUE), INDEX);
        due.is("film, i most", x.film(0, 0, Integer.MAX_VALUE), INDEX);
        due.is("copy, i least", x.copy(0, Integer.MIN_VALUE, 1, 0, 0), INDEX);
        due.is("copy, j most", x.copy(0, 0, 1, Integer.MAX_VALUE, 0), INDEX);
    }

    private static void directions() {
        due.says(0, "DIRECTIONS are 0 .. 7, round a circle (7 is beside 0).");
        ArmSignals x = new ArmSignals();
        due.range("letter(_, 1)", 0, 7, p -> x.letter(p, 1));
        due.range("letter(1, _)", 0, 7, q -> x.letter(1, q));
        due.is("s 2 7, b 0 2", x.apart(18, 1), 1);
        due.is("g 0 7, a 0 1", x.apart(6, 0), 2);
        due.is("z 6 7, f 0 6", x.apart(25, 5), 1);
        due.is("n 1 7, a 0 1", x.apart(13, 0), 1);
        due.is("from 0 to g 0 7", Due.made(":g").least(0), 1);
    }

    private static void steps() {
        due.says(0, "STEPS from one to another one: the fewest by which one comes there, from each to one beside it.");
        // From 0 to both DIRECTIONS of each LETTER; none are more than 4, there or back.
        int[] fromZero = {0, 1, 2, 3, 4, 3, 2, 1};
        for (int l = 0; l < 26; l++) {
            String sign = TABLE.substring(7 * l, 7 * l + 5);
            int due2 = fromZero[sign.charAt(2) - '0'] + fromZero[sign.charAt(4) - '0'];
            due.is("to " + sign, Due.made(":" + sign.charAt(0)).least(0), due2);
        }
        // The left arm stays at 0, the right one goes from d, 4, to each of 1 .. 7.
        int[] fromFour = {3, 2, 1, 0, 1, 2, 3};
        for (int l = 0; l < 7; l++) {
            due.is("d and " + l, Due.made(":d" + (char) ('a' + l)).least(3), 4 + fromFour[l]);
        }
    }

    private static void signs() {
        due.says(0, "A SIGN is two DIRECTIONS (in no order).");
        ArmSignals x = new ArmSignals();
        for (int p = 0; p < 8; p++) {
            for (int q = 0; q < 8; q++) {
                due.is(p + " " + q, x.letter(p, q), x.letter(q, p));
            }
        }
        due.says(0, "LETTERS are 0 .. 25, a .. z; their SIGNS: a 0 1, b 0 2, c 0 3, d 0 4, e 0 5, f 0 6, g 0 7, h 1 2, "
            + "i 1 3, j 4 6, k 1 4, l 1 5, m 1 6, n 1 7, o 2 3, p 2 4, q 2 5, r 2 6, s 2 7, t 3 4, u 3 5, v 4 7, w 5 6, "
            + "x 5 7, y 3 6, z 6 7.");
        for (int l = 0; l < 26; l++) {
            String sign = TABLE.substring(7 * l, 7 * l + 5);
            int p = sign.charAt(2) - '0';
            int q = sign.charAt(4) - '0';
            due.is(sign + " as a LETTER", x.letter(p, q), l);
            due.is(sign + ", lesser", x.sign(l, 0), p);
            due.is(sign + ", greater", x.sign(l, 1), q);
            due.is(sign + " in a TEXT", Due.made(":" + sign.charAt(0)).said(-1, 0), l);
        }
        due.range("say(_)", 0, 25, l -> new ArmSignals().say(l));
        due.range("sign(_, 0)", 0, 25, l -> x.sign(l, 0));
    }

    private static void otherSigns() {
        due.says(0, "CALL is the SIGN 4 5.");
        ArmSignals x = new ArmSignals();
        due.is("4 5", x.letter(4, 5), 26);
        due.is("5 4", x.letter(5, 4), 26);
        due.is("u 3 5 is beside it", x.apart(26, 20), 1);
        due.is("j 4 6 is beside it", x.apart(26, 9), 1);
        due.is("t 3 4 is 2 from it", x.apart(26, 19), 2);
        due.is("w 5 6 is 2 from it", x.apart(26, 22), 2);
        due.says(0, "No other SIGN is a LETTER.");
        for (int p = 0; p < 8; p++) {
            for (int q = 0; q < 8; q++) {
                int lesser = Math.min(p, q);
                int at = TABLE.indexOf(lesser + " " + Math.max(p, q));
                boolean call = p + q == 9 && lesser == 4;
                due.is(p + " " + q, x.letter(p, q), call ? 26 : at < 0 ? NONE : at / 7);
            }
        }
        due.is("CALL is no LETTER that is said", x.say(26), BAD);
        due.is("3 7 is the only one of two DIRECTIONS that is none", x.letter(3, 7), NONE);
    }

    private static void turned() {
        due.says(0, "TURNED, a SIGN is seen from behind: each DIRECTION p is 8 less p (0 stays).");
        // By hand: 1 is 7, 2 is 6, 3 is 5, 0 and 4 stay; l is 3 7, t is CALL.
        String from = "abcdefghijklmnopqrstuvwxyz";
        String turned = "gfedcbazxpv-snwjyrm-ukoiqh";
        ArmSignals x = new ArmSignals();
        for (int l = 0; l < 26; l++) {
            due.is(from.charAt(l) + " turned", x.sign(l, 2), turned.charAt(l) == '-' ? NONE : turned.charAt(l) - 'a');
        }
        due.is("of a to z", Due.made(":abcdefghijkl").count(4) + Due.made(":mnopqrstuvwx").count(4)
            + Due.made(":yz").count(4), 24);
    }

    private static void apart() {
        due.says(0, "APART: two SIGNS are by as many as STEPS from both DIRECTIONS of one to both of the other one are, "
            + "each to one, the way by which these are fewest together.");
        ArmSignals x = new ArmSignals();
        due.is("each to one: a 0 1, e 0 5", x.apart(0, 4), 4);
        due.is("each to one: t 3 4, j 4 6", x.apart(19, 9), 3);
        due.is("crossed: l 1 5, x 5 7", x.apart(11, 23), 2);
        due.is("crossed: a 0 1, g 0 7", x.apart(0, 6), 2);
        due.is("straight: d 0 4, k 1 4", x.apart(3, 10), 1);
        due.is("the most: d 0 4, r 2 6", x.apart(3, 17), 4);
        due.is("a 0 1, CALL 4 5", x.apart(0, 26), 6);
        due.is("n 1 7, u 3 5", x.apart(13, 20), 4);
        due.is("h 1 2, w 5 6", x.apart(7, 22), 6);
        for (int a = 0; a < 27; a++) {
            ArmSignals y = new ArmSignals();
            for (int b = 0; b < 27; b++) {
                due.is("as if by two arms: " + a + " " + b, y.apart(a, b), farBySteps(a, b));
            }
        }
    }

    /** Counted on, one beside the other, until both are there. */
    private static int farBySteps(int a, int b) {
        int p = directionOf(a, 2);
        int q = directionOf(a, 4);
        int r = directionOf(b, 2);
        int s = directionOf(b, 4);
        return Math.min(stepsOn(p, r) + stepsOn(q, s), stepsOn(p, s) + stepsOn(q, r));
    }

    private static int directionOf(int sign, int at) {
        return (sign == 26 ? "* 4 5" : TABLE.substring(7 * sign)).charAt(at) - '0';
    }

    private static int stepsOn(int p, int q) {
        int on = 0;
        while ((p + on) % 8 != q && (q + on) % 8 != p) {
            on++;
        }
        return on;
    }

    private static void message() {
        due.says(0, "THE MESSAGE has up to 12 LETTERS (none at first).");
        ArmSignals x = new ArmSignals();
        due.is("none at first", x.count(0), 0);
        due.is("no LETTER 0", x.said(-1, 0), NONE);
        for (int i = 1; i <= 12; i++) {
            due.is("a LETTER more", x.say(i), i);
        }
        due.is("a 13th said", x.say(0), ArmSignals.FULL);
        due.is("a 13th of a TEXT", Due.text(x, ":abcdefghijklm"), -33);
        ArmSignals y = Due.made("abcdef:abcdefa");
        due.is("a 13th called", y.call(0), ArmSignals.FULL);
        y.seed(0);
        for (int i = 0; i < 12; i++) {
            due.holds("a 13th by a DRIFT", y.drift(40) <= 12);
        }
        due.is("twelve", x.count(0), 12);
    }

    private static void words() {
        due.says(0, "WORDS: up to 6 (none at first), 1 to 6 LETTERS each, numbered as they came.");
        ArmSignals x = new ArmSignals();
        due.is("none at first", x.count(1), 0);
        due.is("no WORD 0", x.said(0, 0), BAD);
        due.is("of no LETTERS", x.keep(), NOT);
        for (int i = 0; i < 6; i++) {
            Due.spell(x, "" + (char) ('p' + i));
            due.is("of " + (i + 1) + " LETTERS", x.keep(), i);
        }
        due.is("as they came", Due.all(x), "11 p,pq,pqr,pqrs,pqrst,pqrstu:pqrstu");
        due.is("a seventh", x.keep(), ArmSignals.FULL);
        x.lose(0);
        x.say(0);
        due.is("of 7 LETTERS", x.keep(), NOT);
        due.is("a seventh of a TEXT", Due.text(x, "a,b,c,d,e,f,g:"), -31);
        due.is("of 7 LETTERS in a TEXT", Due.text(x, "abcdefg:"), -26);
        due.is("of none in a TEXT", Due.text(x, "a,:"), -22);
        due.is("all stays", Due.all(x), "11 pq,pqr,pqrs,pqrst,pqrstu:pqrstua");
        Due.text(x, "f,e,d,c,b,a:");
        due.is("of a TEXT, as they came", x.said(0, 0) * 10 + x.said(5, 0), 50);
    }

    private static void costs() {
        due.says(0, "LEFT, RIGHT, what a STEP of either arm costs: 1 .. 4 (1 both at first).");
        ArmSignals x = new ArmSignals();
        due.is("at first, left", x.count(2), 1);
        due.is("at first, right", x.count(3), 1);
        for (int v = 1; v <= 4; v++) {
            x.tell(0, v);
            x.tell(1, 5 - v);
            due.is("left", x.count(2), v);
            due.is("right", x.count(3), 5 - v);
        }
        due.range("left, _", 1, 4, v -> new ArmSignals().tell(0, v));
        due.range("right, _", 1, 4, v -> new ArmSignals().tell(1, v));
    }

    private static void arms() {
        due.says(0, "Arms begin with both at 0.");
        due.is("a 0 1", Due.made(":a").least(0), 1);
        due.is("a 0 1, left stays", Due.made(":a").least(2), 0);
        due.is("n 1 7", Due.made(":n").least(0), 2);
        due.is("t 3 4", Due.made(":t").least(0), 7);
        due.says(0, "SIGNS are made one behind the other: at each the left arm is at one of the two DIRECTIONS, "
            + "the right one at the other. A WAY tells for each SIGN at which DIRECTION the left arm is.");
        for (String letters : new String[] {"abcdefghijkl", "zyxwvutsrqpo", "mnomnomnomno"}) {
            ArmSignals x = Due.made(":" + letters);
            x.tell(0, 3);
            for (int i = 0; i < 12; i++) {
                due.is("SIGN " + i, x.letter(x.arm(i, 0), x.arm(i, 1)), letters.charAt(i) - 'a');
            }
        }
        due.is("two WAYS of one SIGN that are alike", Due.made(":u").least(1), 2);
        due.is("one WAY of none", new ArmSignals().least(1), 1);
    }

    private static void effort() {
        due.says(0, "EFFORT: for all STEPS of both arms, from SIGN to SIGN (from the beginning to the first one, too), "
            + "what they cost, together. LEAST is that of the SIGNS of THE MESSAGE, by any WAY.");
        due.is("none", new ArmSignals().least(0), 0);
        due.is("from the beginning", Due.made(":d").least(0), 4);
        due.is("from SIGN to SIGN", Due.made(":da").least(0), 4 + 3);
        due.is("and on", Due.made(":dat").least(0), 4 + 3 + 6);
        for (int left = 1; left <= 4; left++) {
            for (int right = 1; right <= 4; right++) {
                ArmSignals x = Due.made(":t");
                x.tell(0, left);
                x.tell(1, right);
                int due2 = Math.min(3 * left + 4 * right, 4 * left + 3 * right);
                due.is("t 3 4 by " + left + ", " + right, x.least(0), due2);
                Due.text(x, "a:dat");
                due.is("STEPS by what they cost", x.least(0), left * x.least(2) + right * x.least(3));
            }
        }
        // The first SIGN is dearer by the WAY that is least: u 3 5, t 3 4, the right arm costs 2.
        ArmSignals ahead = Due.made(":ut");
        ahead.tell(1, 2);
        due.is("by any WAY", ahead.least(0), 3 + 3 * 2 + 1);
        due.is("of THE MESSAGE alone, not of WORDS", Due.made("zzz,t:d").least(0), 4);
    }

    private static void theWay() {
        due.says(0, "THE WAY: of all with that EFFORT the one by which the left arm is at the lesser DIRECTION of the first "
            + "SIGN, if one is, then of the second one likewise, and so on.");
        isLeft("two alike", ":d", 1, 1, 0);
        isLeft("the first is not to choose", ":d", 1, 2, 4);
        isLeft("by what comes behind it", ":ut", 1, 2, 5, 4);
        isLeft("a dear left arm", ":ut", 2, 1, 3, 3);
        // d: left 4; u 3 5 is as near by both, so left 3; n 1 7 then left 1.
        isLeft("the second is to choose", ":du", 1, 2, 4, 3);
        isLeft("the second is to choose, not the third", ":dun", 1, 2, 4, 3, 1);
        // a 0 1: left 0; j 4 6: the left arm goes back to 6, the right one on to 4.
        isLeft("the second is not to choose", ":aj", 1, 1, 0, 6);
        isLeft("all are to choose", ":atatatatatat", 1, 1, 0, 3, 0, 3, 0, 3, 0, 3, 0, 3, 0, 3);
    }

    private static void isLeft(String what, String text, int left, int right, int... directions) {
        ArmSignals x = Due.made(text);
        x.tell(0, left);
        x.tell(1, right);
        for (int i = 0; i < directions.length; i++) {
            due.is(what + ", SIGN " + i, x.arm(i, 0), directions[i]);
        }
    }
}
