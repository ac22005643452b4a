/** Promises 13 to 18: effort, slips; sentence by sentence. Due answers are worked out by hand. */
public final class EffortTest {
    private static final Due due = new Due();

    public static void main(String[] args) {
        least();
        leastBad();
        arm();
        brief();
        nearest();
        slips();
        slipsNearest();
        still();
        stillBad();
        due.end();
    }

    private static void least() {
        due.says(13, "0 LEAST, 1 how many WAYS there are with that EFFORT, "
            + "2, 3 STEPS of the left, the right arm by THE WAY.");
        isLeast("no SIGNS: one WAY of none", new ArmSignals(), 0, 1, 0, 0);
        isLeast("no SIGNS, but WORDS", Due.made("abc:"), 0, 1, 0, 0);
        // d 0 4, a 0 1: 4 steps, then 3 more by the same arm.
        ArmSignals x = Due.made(":da");
        isLeast("da", x, 7, 2, 0, 7);
        x.tell(1, 2);
        isLeast("da, the right arm is dear", x, 7, 1, 7, 0);
        x.tell(0, 4);
        isLeast("da, the left one is dearer", x, 14, 1, 0, 7);
        x.tell(1, 4);
        isLeast("da, both are dear: STEPS are STEPS", x, 28, 2, 0, 7);
        // t 3 4: 3 steps and 4; the dear arm takes the fewer.
        ArmSignals y = Due.made(":t");
        isLeast("t", y, 7, 2, 3, 4);
        y.tell(1, 4);
        isLeast("t, the right arm is dear", y, 16, 1, 4, 3);
        y.tell(1, 1);
        y.tell(0, 4);
        isLeast("t, the left arm is dear", y, 16, 1, 3, 4);
        // The same SIGN again costs nothing, if no arm crosses.
        isLeast("a twelve times", Due.made(":aaaaaaaaaaaa"), 1, 2, 0, 1);
        // a 0 1, c 0 3, the right arm stays at 0; two WAYS of a, but one of both.
        ArmSignals ac = Due.made(":ac");
        ac.tell(1, 3);
        isLeast("ac, the right arm is dear", ac, 3, 1, 3, 0);
        // n 1 7 is 2 from the beginning, u 3 5 is 4 from n if no arm crosses (8 if both do).
        isLeast("nu", Due.made(":nu"), 6, 2, 3, 3);
        // a 0 1, t 3 4: 3 and 3 steps, or 4 and 2, there and back: each of all 4096 WAYS is as good.
        isLeast("at six times", Due.made(":atatatatatat"), 1 + 11 * 6, 4096, 33, 34);
        // The same object again, with less LETTERS each time.
        ArmSignals less = Due.made(":atatatatatat");
        for (int i = 12; i >= 1; i--) {
            isLeast(i + " of them", less, 1 + (i - 1) * 6, 1 << i, 3 * (i - 1), 3 * (i - 1) + 1);
            less.back();
        }
        isLeast("none of them", less, 0, 1, 0, 0);
    }

    private static void isLeast(String what, ArmSignals x, int effort, int ways, int left, int right) {
        due.is(what + ", LEAST", x.least(0), effort);
        due.is(what + ", WAYS", x.least(1), ways);
        due.is(what + ", left", x.least(2), left);
        due.is(what + ", right", x.least(3), right);
    }

    private static void leastBad() {
        due.says(13, "BAD.");
        due.range("no SIGNS", 0, 3, what -> new ArmSignals().least(what));
        due.range("twelve SIGNS", 0, 3, what -> Due.made(":abcdefghijkl").least(what));
    }

    private static void arm() {
        due.says(14, "At SIGN i of THE MESSAGE the DIRECTION of the left (arm 0), the right (1) arm by THE WAY.");
        ArmSignals x = Due.made(":dat");
        isArm("dat", x, 0, 4, 0, 1, 3, 4);
        x.tell(1, 3);
        isArm("dat, the right arm is dear", x, 4, 0, 1, 0, 4, 3);
        isArm("one SIGN", Due.made(":z"), 6, 7);
        isArm("twelve SIGNS", Due.made(":atatatatatat"),
            0, 1, 3, 4, 0, 1, 3, 4, 0, 1, 3, 4, 0, 1, 3, 4, 0, 1, 3, 4, 0, 1, 3, 4);
        due.says(14, "BAD.");
        due.is("no SIGN, left", new ArmSignals().arm(0, 0), ArmSignals.BAD);
        due.is("no SIGN, right", Due.made("abc:").arm(0, 1), ArmSignals.BAD);
        for (int arm = 0; arm < 2; arm++) {
            int which = arm;
            due.range("of three, arm " + arm, 0, 2, i -> x.arm(i, which));
            due.range("of twelve, arm " + arm, 0, 11, i -> Due.made(":abcdefghijkl").arm(i, which));
        }
        due.range("arm(0, _)", 0, 1, arm -> x.arm(0, arm));
        due.range("arm(2, _)", 0, 1, arm -> x.arm(2, arm));
        x.back();
        due.is("what was taken back", x.arm(2, 0), ArmSignals.BAD);
    }

    private static void isArm(String what, ArmSignals x, int... directions) {
        for (int i = 0; i < directions.length; i++) {
            due.is(what + ", SIGN " + i / 2 + ", arm " + i % 2, x.arm(i / 2, i % 2), directions[i]);
        }
    }

    private static void brief() {
        due.says(15, "0 SHORT, 1 how many SIGNS are made at least with that EFFORT.");
        isBrief("nothing", "", 1, 1, 0, 0);
        isBrief("nothing, but WORDS", "a,b:", 1, 1, 0, 0);
        isBrief("one SIGN", "b:a", 1, 1, 1, 1);
        isBrief("twelve SIGNS", "b:aaaaaaaaaaaa", 1, 1, 1, 12);
        // By CALL 4 5 (7 steps) and f 0 6 (4 and 1).
        isBrief("called", "b,b,b,b,b,azazaz:azazaz", 1, 1, 7 + 5, 2);
        // 1 for a, 6 for t 3 4, 6 for a; or 7 for CALL and 6 for a: as much, by less SIGNS.
        isBrief("fewer SIGNS by CALL with the same EFFORT", "ata:ata", 1, 1, 13, 2);
        // j 4 6 is 6, a 0 1 is 5 behind it; CALL is 1 behind it, c 0 3 is 4 behind CALL: as much, by more SIGNS.
        isBrief("fewer SIGNS by LETTERS with the same EFFORT", "z,z,a:ja", 1, 1, 11, 2);
        // d 0 4 is but 3 behind CALL: more SIGNS, but less EFFORT.
        isBrief("EFFORT goes ahead of SIGNS", "z,z,z,a:ja", 1, 1, 10, 3);
        // The dear right arm: a 1, then left 3, right 1 each time; CALL, left 5 (3 steps), right 4 (4), d, left 0 (3).
        isBrief("as it is, a dear right arm", "b:azazaz", 1, 4, 1 + 5 * (3 + 4), 6);
        isBrief("called, a dear right arm", "b,b,b,azazaz:azazaz", 1, 4, 3 + 4 * 4 + 3, 2);
        isBrief("called, a dear left arm", "b,b,b,azazaz:azazaz", 4, 1, 3 + 4 * 4 + 3, 2);
        due.says(15, "BAD.");
        due.range("no SIGNS", 0, 1, what -> new ArmSignals().brief(what));
        due.range("called", 0, 1, what -> Due.made("azazaz:azazazazazaz").brief(what));
    }

    private static void isBrief(String what, String text, int left, int right, int effort, int signs) {
        ArmSignals x = text.isEmpty() ? new ArmSignals() : Due.made(text);
        x.tell(0, left);
        x.tell(1, right);
        due.is(what + ", SHORT", x.brief(0), effort);
        due.is(what + ", SIGNS", x.brief(1), signs);
    }

    private static void nearest() {
        due.says(16, "NEAREST to THE MESSAGE: 0 its number (NONE), 1 by how many it is APART (NONE), "
            + "2 whether it's SURE (1, 0; NONE).");
        isNearest("abc,az,ab,af:ab", 2, 0, 1);
        // b 0 2: c is 1 apart, a is 1 apart.
        isNearest("bc,ba,bz:bb", 0, 1, 0);
        isNearest("bc,bz:bb", 0, 1, 1);
        isNearest("zz,bb,cc:bb", 1, 0, 1);
        isNearest("a:b", 0, 1, 1);
        isNearest("a,a,a,a,a,b:b", 5, 0, 1);
        // Six LETTERS, as far as may be: d 0 4 and r 2 6 are 4 apart.
        isNearest("dddddd:rrrrrr", 0, 24, 1);
        int none = ArmSignals.NONE;
        isNearest("", none, none, none);
        isNearest(":", none, none, none);
        isNearest("abc,a,abcdef:", none, none, none);
        isNearest(":ab", none, none, none);
        isNearest("abc,a:ab", none, none, none);
        isNearest("abcdef,a:abcdefg", none, none, none);
        isNearest("abcdef,a:abcdefabcdef", none, none, none);
        due.says(16, "BAD.");
        due.range("one that is", 0, 2, what -> Due.made("a:b").nearest(what));
        due.range("none: BAD ahead of NONE", 0, 2, what -> new ArmSignals().nearest(what));
    }

    private static void isNearest(String text, int number, int apart, int sure) {
        ArmSignals x = text.isEmpty() ? new ArmSignals() : Due.made(text);
        due.is(text + ", number", x.nearest(0), number);
        due.is(text + ", APART", x.nearest(1), apart);
        due.is(text + ", SURE", x.nearest(2), sure);
    }

    private static void slips() {
        due.says(17, "SLIPS: 0 by which that LETTER is none any more, 1 by which it is another one,");
        isSlips("", 0, 0, 0);
        isSlips("abc:", 0, 0, 0);
        // u 3 5: 4 5 is CALL, 2 5 q, 3 6 y, 3 4 t. g 0 7: 1 7 n, 7 7, 0 0, 0 6 f.
        isSlips(":u", 1, 3, 0);
        isSlips(":g", 2, 2, 0);
        isSlips(":ug", 3, 5, 0);
        // v 4 7: 3 7 is no LETTER.
        isSlips(":v", 1, 3, 0);
        // a 2, c 1, g 2, h 2, j 1 of the first twelve LETTERS.
        isSlips("b:abcdefghijkl", 8, 40, 0);
        isSlips(":zzzzzzzzzzzz", 24, 24, 0);
    }

    private static void slipsNearest() {
        due.says(17, "2 by which what is NEAREST to THE MESSAGE without them is NEAREST, and SURE (0, if there is none).");
        isSlips("ug:ug", 3, 5, 8);
        isSlips("abcdef:zzzzzz", 12, 12, 24);
        // b 0 2, c 0 3: by 1 2, 7 2 and 0 1 it is b that is nearer, by 0 3 it is c.
        isSlips("b,c:b", 0, 4, 3);
        // By 0 3, of either LETTER, both are as near.
        isSlips("bb,cc:bb", 0, 8, 3 + 3);
        isSlips("bb,bc:bb", 0, 8, 4 + 3);
        // Each slip by itself: by 0 1 the first LETTER is a, but that is over when the second one's slips come.
        isSlips("bb,ab:bb", 0, 8, 3 + 4);
        // a and c are as near to b; 1 2: 2 and 2; 7 2: 2 and 2; 0 3 is c; by 0 1 alone it is a, for sure.
        isSlips("a,c:b", 0, 4, 1);
        isSlips("b,b:b", 0, 4, 0);
        isSlips("b,bb:bbb", 0, 12, 0);
        isSlips("abcdef:abcdefg", 5, 23, 0);
        due.says(17, "BAD.");
        due.range("nothing", 0, 2, what -> new ArmSignals().slips(what));
        due.range("twelve", 0, 2, what -> Due.made("b:abcdefghijkl").slips(what));
    }

    private static void isSlips(String text, int none, int another, int nearest) {
        ArmSignals x = text.isEmpty() ? new ArmSignals() : Due.made(text);
        due.is(text + ", none any more", x.slips(0), none);
        due.is(text + ", another one", x.slips(1), another);
        due.is(text + ", NEAREST", x.slips(2), nearest);
    }

    private static void still() {
        due.says(18, "STILL of a WORD: above (what 0), below (1).");
        // b 0 2 slips to 0 3, which is c: told by 10 - c of 10. c slips to d, which is nearer to c.
        ArmSignals x = Due.made("b,c,bb,bc,cc:");
        isStill("b by 4", x, 0, 4, 3, 5);
        isStill("b by 0", x, 0, 0, 1, 1);
        isStill("b by 1", x, 0, 1, 9, 10);
        isStill("b by 9", x, 0, 9, 1, 10);
        isStill("b by 10", x, 0, 10, 0, 1);
        isStill("c by 10", x, 1, 10, 1, 1);
        // bb is told if neither slips, bc if the first does not, cc always.
        isStill("bb by 1", x, 2, 1, 81, 100);
        isStill("bb by 10", x, 2, 10, 0, 1);
        isStill("bc by 1", x, 3, 1, 9, 10);
        isStill("cc by 7", x, 4, 7, 1, 1);
        // Of six LETTERS: told if none of the first five slips.
        isStill("five of six", Due.made("bbbbbb,cbbbbb,bcbbbb,bbcbbb,bbbcbb,bbbbcb:"), 0, 1, 59049, 100000);
        isStill("never sure", Due.made("b,b:"), 0, 3, 0, 1);
        isStill("never sure by 0", Due.made("b,b:"), 1, 0, 0, 1);
        isStill("the only one", Due.made("bbbbbb:"), 0, 5, 1, 1);
        isStill("the last of six", Due.made("a,a,a,a,c,b:"), 5, 3, 7, 10);
    }

    private static void stillBad() {
        due.says(18, "BAD.");
        due.is("no WORD", new ArmSignals().still(0, 0, 0), ArmSignals.BAD);
        ArmSignals x = Due.made("a,a,a,a,c,b:abc");
        due.range("of six", 0, 5, k -> x.still(k, 1, 0));
        due.range("of one", 0, 0, k -> Due.made("a:bcd").still(k, 1, 1));
        due.range("c", 0, 10, c -> x.still(0, c, 0));
        due.range("c, below", 0, 10, c -> x.still(5, c, 1));
        due.range("what", 0, 1, what -> x.still(0, 1, what));
        due.is("THE MESSAGE is no WORD", x.still(-1, 1, 0), ArmSignals.BAD);
    }

    private static void isStill(String what, ArmSignals x, int k, int c, int above, int below) {
        due.is(what + ", above", x.still(k, c, 0), above);
        due.is(what + ", below", x.still(k, c, 1), below);
    }
}
