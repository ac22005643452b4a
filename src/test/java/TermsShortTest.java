/** The Terms: 2, called words, what is nearest, slips; sentence by sentence. Due answers are worked out by hand. */
public final class TermsShortTest {
    private static final Due due = new Due();

    public static void main(String[] args) {
        called();
        calledBySides();
        shortest();
        nearest();
        sure();
        slips();
        still();
        stillLowest();
        due.end();
    }

    /** SHORT and its SIGNS, both arms costing 1. */
    private static void isShort(String text, int effort, int signs) {
        isShort(text, 1, 1, effort, signs);
    }

    private static void isShort(String text, int left, int right, int effort, int signs) {
        ArmSignals x = Due.made(text);
        x.tell(0, left);
        x.tell(1, right);
        due.is(text + " by " + left + ", " + right + ", SHORT", x.brief(0), effort);
        due.is(text + " by " + left + ", " + right + ", SIGNS", x.brief(1), signs);
    }

    private static void called() {
        due.says(0, "CALLED: any LETTERS of THE MESSAGE in a row that are WORD k may be made as two SIGNS, "
            + "CALL and that of LETTER k.");
        // CALL 4 5 is 7 from the beginning. From it: a 0 1 is 6, b 0 2 5, c 0 3 4, d 0 4 3, e 0 5 4, f 0 6 5.
        int[] behindCall = {6, 5, 4, 3, 4, 5};
        StringBuilder ahead = new StringBuilder();
        for (int k = 0; k < 6; k++) {
            isShort(ahead + "azazaz:azazaz", 7 + behindCall[k], 2);
            ahead.append("b,");
        }
        // a 0 1 is 1 from the beginning, z 6 7 is 4 from it; both are 3 from d 0 4.
        isShort("b,b,b,azaza:azazaz", 7 + 3 + 3, 3);
        isShort("b,b,b,zazaz:azazaz", 1 + 6 + 3, 3);
        isShort("b,b,b,zazaza:azazazaz", 1 + 6 + 3 + 3, 4);
        isShort("b,b,b,azazaz:azazazazazaz", 7 + 3 + 3 + 3, 4);
        // Not all LETTERS of the WORD are there, or not in a row.
        isShort("azazaz:azaza", 1 + 4 * 4, 5);
        isShort("b,b,b,zazaz:aza", 1 + 2 * 4, 3);
        isShort("azazaz:azazbz", 1 + 4 * 3 + 5 + 5, 6);
        isShort("azazaz:bzazaz", 2 + 5 + 4 * 4, 6);
        isShort("azazaz:azazab", 1 + 4 * 4 + 1, 6);
        // A WORD of one LETTER: j 4 6 is 6, CALL is 1 behind it, d 3 more; a by itself would be 5 behind j.
        isShort("b,b,b,a:ja", 6 + 1 + 3, 3);
        isShort("b,b,b,j:ja", 6 + 5, 2);
    }

    private static void calledBySides() {
        due.says(0, "SHORT: the least EFFORT of any SIGNS by which all of THE MESSAGE is made, "
            + "each LETTER as itself or within a WORD that is CALLED.");
        isShort(":", 0, 0);
        isShort("a,b:", 0, 0);
        isShort(":azazaz", 21, 6);
        isShort("tu:tu", 7 + 1, 2);
        // By a, z 5, CALL 4 and d 3, a 3, z 4; or by CALL 7 and d 3, then a 3, z 4, a 4, z 4.
        isShort("b,b,b,azaz:azazazaz", 7 + 3 + 3 + 3, 4);
        // The dear arm stays where it can.
        isShort("b,b,b,azazaz:azazaz", 1, 4, 3 + 4 * 4 + 3, 2);
        isShort("b,b,b,azazaz:azazaz", 4, 1, 3 + 4 * 4 + 3, 2);
        isShort("b,b,b,azazaz:azazaz", 4, 4, 40, 2);
    }

    private static void shortest() {
        due.says(0, "the least EFFORT of any SIGNS");
        // p 6, CALL 3, a 6, a again 0; by LETTERS p 6, w 5, a 6.
        isShort("w:pwa", 6 + 3 + 6 + 0, 4);
        // c 3, v 2, CALL 2, a 6, a again 0; by LETTERS c 3, v 2, t 4, a 6.
        isShort("t:cvta", 3 + 2 + 2 + 6 + 0, 5);
        // u, left 3 and right 5; the dear right arm stays there: left 4 by CALL, left 0 by e.
        isShort("g,g,g,g,g:ug", 1, 4, 3 + 4 * 3 + 1 + 4, 3);
        // j, left 6 and right 4; CALL, left 5; e, right 0: the left arm stays at 5.
        isShort("a,a,j,j,a:ja", 2, 1, 2 * 2 + 4 + 2 + 4, 3);
        // By trying all rows of SIGNS and all WAYS of each: what is dearer up to a place may be less behind it.
        isShort("o:joa", 1, 3, 25, 4);
        isShort("t:jta", 3, 1, 25, 4);
        isShort("t:jtg", 1, 4, 33, 4);
        isShort("tj:tja", 1, 2, 19, 3);
        isShort("wt,t:wtg", 1, 3, 27, 3);
        isShort("x,u:uxa", 2, 1, 19, 4);
        isShort("kthf,hf:kthfr", 1, 3, 28, 5);
        isShort("pz,pz,z:qpzi", 3, 4, 47, 5);
        // The same object again, with less LETTERS each time, then more.
        ArmSignals x = Due.made("b,b,b,azazaz:azazazazazaz");
        for (int i = 0; i < 6; i++) {
            due.is("of " + (12 - i) + " LETTERS", x.brief(0), briefOf("azazazazazaz".substring(0, 12 - i)));
            x.back();
        }
        due.is("of six", x.brief(0), 7 + 3);
        x.call(3);
        due.is("of twelve again", x.brief(0), 7 + 3 + 3 + 3);
    }

    private static int briefOf(String message) {
        return Due.made("b,b,b,azazaz:" + message).brief(0);
    }

    private static void isNearest(String text, int number, int apart, int sure) {
        ArmSignals x = Due.made(text);
        due.is(text + ", number", x.nearest(0), number);
        due.is(text + ", APART", x.nearest(1), apart);
        due.is(text + ", SURE", x.nearest(2), sure);
    }

    private static void nearest() {
        due.says(0, "NEAREST to a row of SIGNS: of all WORDS that have as many LETTERS that by which these are APART by the "
            + "fewest together, of like ones the least number.");
        int none = ArmSignals.NONE;
        isNearest(":a", none, none, none);
        isNearest("a:", none, none, none);
        isNearest("aa,aaa:a", none, none, none);
        isNearest("aaaaaa:aaaaaaa", none, none, none);
        isNearest("bb,b,a,aaa:a", 2, 0, 1);
        isNearest("aa,g:a", 1, 2, 1);
        // d 0 4: e and c are 1 apart, f and b are 2.
        isNearest("f,e,b,c:d", 1, 1, 0);
        isNearest("f,c,e,b,e,c:d", 1, 1, 0);
        // Together: 1 and 1, 0 and 3, 3 and 0.
        isNearest("dg,ga,ee:dd", 2, 2, 1);
        isNearest("dg,ee,gd:dd", 1, 2, 1);
        isNearest("aaaaaa,bbbbbb,cccccc,dddddd,eeeeee,ffffff:ffffff", 5, 0, 1);
        isNearest("rrrrrr:dddddd", 0, 24, 1);
        ArmSignals x = Due.made("a,c:");
        x.sheet(0, 0, 2);
        x.item(0, 0, 1, 2);
        due.is("of like ones the least number, as they were seen", x.seen(0, 0, 0, 1), 0);
    }

    private static void sure() {
        due.says(0, "It is SURE, if no other one of these is APART as few.");
        isNearest("b:z", 0, 5, 1);
        isNearest("a,a:a", 0, 0, 0);
        isNearest("b,a,a:a", 1, 0, 0);
        isNearest("a,b,a:a", 0, 0, 0);
        isNearest("a,b,b:a", 0, 0, 1);
        isNearest("b,b,a:a", 2, 0, 1);
        isNearest("c,c,b,b,a,b:a", 4, 0, 1);
        isNearest("e,c,d:d", 2, 0, 1);
        isNearest("e,d,c:d", 1, 0, 1);
        isNearest("c,e:d", 0, 1, 0);
        // One that is longer is none of these.
        isNearest("a,aa:a", 0, 0, 1);
        isNearest("aaa,a:a", 1, 0, 1);
    }

    private static void slips() {
        due.says(0, "SLIPS of THE MESSAGE: for each LETTER, each of its two DIRECTIONS is one on or one back (7 on is 0): "
            + "four for each LETTER.");
        // Two beside one another slip to two like ones, twice; c, s, v, y slip to 3 7, j and u to CALL 4 5.
        String none = "20100022010000200012112012";
        int all = 0;
        for (int l = 0; l < 26; l++) {
            ArmSignals x = Due.made(":" + (char) ('a' + l));
            due.is("of LETTER " + l + ", none any more", x.slips(0), none.charAt(l) - '0');
            due.is("of LETTER " + l + ", another one", x.slips(1), 4 - (none.charAt(l) - '0'));
            all += x.slips(0) + x.slips(1);
        }
        due.is("four for each", all, 4 * 26);
        due.is("four for each of twelve", Due.made(":zzzzzzzzzzzz").slips(1), 24);
        // z 6 7: by 7 on it is 0 6, f; 5 7 is x. g 0 7: 0 back is 7 7, 1 7 is n, 0 6 is f, 7 on is 0 0.
        due.is("7 on is 0", Due.made("z,f:z").slips(2), 3);
        due.is("6 back is 5", Due.made("z,x:z").slips(2), 3);
        // a 0 1: 0 back is 7 1, n; 0 2 is b; 1 1 is 1 from a and h; 0 0 is 1 from a and g.
        due.is("0 back is 7", Due.made("a,n:a").slips(2), 3);
        due.is("1 on is 2", Due.made("a,b:a").slips(2), 3);
        due.is("0 on is 1, and 0 2 is 1 from both", Due.made("a,h:a").slips(2), 2);
        due.is("1 back is 0", Due.made("a,g:a").slips(2), 2);
    }

    private static void isStill(String text, int c, int above, int below) {
        ArmSignals x = Due.made(text);
        due.is(text + " by " + c + ", above", x.still(0, c, 0), above);
        due.is(text + " by " + c + ", below", x.still(0, c, 1), below);
    }

    private static void still() {
        due.says(0, "STILL by c of 10 (0 .. 10): of a WORD sent, each LETTER's greater DIRECTION is one on by c of 10, apart: "
            + "how likely it is NEAREST and SURE:");
        due.range("c", 0, 10, c -> Due.made("b,c:").still(0, c, 0));
        for (int c = 0; c <= 10; c++) {
            ArmSignals x = Due.made("b,c:");
            due.is("b 0 2 or 0 3, c: by " + c, x.still(0, c, 0) * 10, (10 - c) * x.still(0, c, 1));
        }
        // The lesser DIRECTION never slips: 1 2, h; nor does one go back: 0 1, a.
        isStill("b,h:", 10, 1, 1);
        isStill("b,a:", 10, 1, 1);
        // z 6 7 slips to 0 6, f; g 0 7 to 0 0, which is 1 from g and from a: NEAREST, but not SURE.
        isStill("z,f:", 10, 0, 1);
        isStill("z,f:", 3, 7, 10);
        isStill("z,x:", 10, 1, 1);
        isStill("g,a:", 3, 7, 10);
        isStill("g,b:", 3, 1, 1);
        // Each apart: by one slip of two bb and cc are as near, by both it is cc.
        isStill("bb,cc:", 5, 1, 4);
        isStill("bb,cc:", 1, 81, 100);
        isStill("bb,bc:", 1, 9, 10);
        // Like ones, of which none is SURE, and ones of another length, that are none of these.
        isStill("b,b:", 0, 0, 1);
        isStill("b,cc,c:", 0, 1, 1);
        isStill("b,cc:", 10, 1, 1);
        // By none or one slip of three bbb is nearer: 729 and 243 of 1000.
        isStill("bbb,ccc:", 5, 1, 2);
        isStill("bbb,ccc:", 1, 243, 250);
    }

    private static void stillLowest() {
        due.says(0, "a fraction in lowest terms.");
        // Told if none of six slips: by one of the first two, bbbbbb and ccbbbb are as near.
        String six = "bbbbbb,ccbbbb,bbcbbb,bbbcbb,bbbbcb,bbbbbc:";
        isStill(six, 0, 1, 1);
        isStill(six, 1, 531441, 1000000);
        isStill(six, 2, 4096, 15625);
        isStill(six, 3, 117649, 1000000);
        isStill(six, 4, 729, 15625);
        isStill(six, 5, 1, 64);
        isStill(six, 6, 64, 15625);
        isStill(six, 7, 729, 1000000);
        isStill(six, 8, 1, 15625);
        isStill(six, 9, 1, 1000000);
        isStill(six, 10, 0, 1);
        isStill("b,c:", 5, 1, 2);
        isStill("b,c:", 2, 4, 5);
    }
}
