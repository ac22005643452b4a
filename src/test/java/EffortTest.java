/** Promises 13 to 18: effort, slips. Due answers are worked out by hand. */
public final class EffortTest {
    private static final Due due = new Due();

    public static void main(String[] args) {
        least();
        arm();
        brief();
        nearest();
        slips();
        still();
        due.end();
    }

    private static void least() {
        ArmSignals x = new ArmSignals();
        due.is("13 no SIGNS", x.least(0), 0);
        due.is("13 one WAY of none", x.least(1), 1);
        due.is("13 no steps", x.least(2) + x.least(3), 0);
        // d 0 4, a 0 1: 4 steps, then 3 more by the same arm.
        Due.text(x, ":da");
        due.is("13 da", x.least(0), 7);
        due.is("13 da, WAYS", x.least(1), 2);
        due.is("13 da, left", x.least(2), 0);
        due.is("13 da, right", x.least(3), 7);
        x.tell(1, 2);
        due.is("13 da, dear right", x.least(0), 7);
        due.is("13 da, one WAY then", x.least(1), 1);
        due.is("13 left then", x.least(2), 7);
        due.is("13 right then", x.least(3), 0);
        x.tell(0, 4);
        due.is("13 da, dearer left", x.least(0), 14);
        due.is("13 least(4)", x.least(4), ArmSignals.BAD);
        due.is("13 least(-1)", x.least(-1), ArmSignals.BAD);
        // The same SIGN again costs nothing; each may be begun by two WAYS.
        ArmSignals y = new ArmSignals();
        Due.text(y, ":aaaaaaaaaaaa");
        due.is("13 a twelve times", y.least(0), 1);
        due.is("13 two WAYS", y.least(1), 2);
        // n 1 7 is 2 from the beginning, u 3 5 is 4 from n if no arm crosses (8 if both do).
        Due.text(y, ":nu");
        due.is("13 n 1 7, u 3 5", y.least(0), 6);
        due.is("13 WAYS of nu", y.least(1), 2);
    }

    private static void arm() {
        ArmSignals x = new ArmSignals();
        due.is("14 no SIGN", x.arm(0, 0), ArmSignals.BAD);
        Due.text(x, ":dat");
        due.is("14 d left", x.arm(0, 0), 0);
        due.is("14 d right", x.arm(0, 1), 4);
        due.is("14 a left", x.arm(1, 0), 0);
        due.is("14 a right", x.arm(1, 1), 1);
        due.is("14 t left", x.arm(2, 0), 3);
        due.is("14 t right", x.arm(2, 1), 4);
        due.is("14 arm(3, 0)", x.arm(3, 0), ArmSignals.BAD);
        due.is("14 arm(-1, 0)", x.arm(-1, 0), ArmSignals.BAD);
        due.is("14 arm(0, 2)", x.arm(0, 2), ArmSignals.BAD);
        due.is("14 arm(0, -1)", x.arm(0, -1), ArmSignals.BAD);
        x.tell(1, 3);
        due.is("14 d, dear right: left", x.arm(0, 0), 4);
        due.is("14 d, dear right: right", x.arm(0, 1), 0);
        due.is("14 a, dear right: left", x.arm(1, 0), 1);
        due.is("14 t, dear right: left", x.arm(2, 0), 4);
    }

    private static void brief() {
        ArmSignals x = new ArmSignals();
        due.is("15 nothing", x.brief(0), 0);
        due.is("15 no SIGNS", x.brief(1), 0);
        // No WORD helps: as it is.
        Due.text(x, "b:aaa");
        due.is("15 as it is", x.brief(0), x.least(0));
        due.is("15 as many SIGNS", x.brief(1), 3);
        // a 0 1, z 6 7: 1 step, then 4 each time. CALL 4 5 is 7 from the beginning, a 6 more behind it.
        Due.text(x, "azazaz:azazaz");
        due.is("15 azazaz", x.least(0), 1 + 5 * 4);
        due.is("15 azazaz called", x.brief(0), 7 + 6);
        due.is("15 azazaz called, SIGNS", x.brief(1), 2);
        // WORD 3 is told by d 0 4, beside CALL: 7 and 3 steps.
        Due.text(x, "b,b,b,azazaz:azazaz");
        due.is("15 by a later WORD", x.brief(0), 7 + 3);
        due.is("15 by a later WORD, SIGNS", x.brief(1), 2);
        Due.text(x, "b,b,b,azaza:azazaz");
        due.is("15 WORD and LETTER behind", x.brief(0), 10 + 3);
        due.is("15 WORD and LETTER behind, SIGNS", x.brief(1), 3);
        due.is("15 brief(2)", x.brief(2), ArmSignals.BAD);
        due.is("15 brief(-1)", x.brief(-1), ArmSignals.BAD);
        // The right arm is dear. By LETTERS: 1 for a, then the left arm 3 and the right one 1 each time.
        // By CALL, left 5 (3 steps), right 4 (4 steps), then d, left 0 (3 steps more).
        Due.text(x, "b,b,b,azazaz:azazaz");
        x.tell(1, 4);
        due.is("15 a dear right arm, by LETTERS", x.least(0), 1 + 5 * (3 + 4));
        due.is("15 a dear right arm", x.brief(0), 3 + 4 * 4 + 3);
        due.is("15 a dear right arm, SIGNS", x.brief(1), 2);
        x.tell(1, 1);
        // tu: 3 4, 3 5; WORD 0 by CALL 4 5, a 0 1: dearer, so it is not called.
        Due.text(x, "tu:tu");
        due.is("15 a WORD that is dearer", x.brief(0), x.least(0));
        due.is("15 a WORD that is dearer, SIGNS", x.brief(1), 2);
    }

    private static void nearest() {
        ArmSignals x = new ArmSignals();
        due.is("16 nothing", x.nearest(0), ArmSignals.NONE);
        Due.text(x, "abc,az,ab,af:ab");
        due.is("16 itself", x.nearest(0), 2);
        due.is("16 itself, apart", x.nearest(1), 0);
        due.is("16 itself, sure", x.nearest(2), 1);
        // b 0 2: c is 1 apart, a is 1 apart.
        Due.text(x, "bc,ba,bz:bb");
        due.is("16 the least number of like ones", x.nearest(0), 0);
        due.is("16 apart", x.nearest(1), 1);
        due.is("16 not sure", x.nearest(2), 0);
        x.lose(1);
        due.is("16 sure now", x.nearest(2), 1);
        x.say(0);
        due.is("16 none as long", x.nearest(0), ArmSignals.NONE);
        due.is("16 none as long, apart", x.nearest(1), ArmSignals.NONE);
        due.is("16 none as long, sure", x.nearest(2), ArmSignals.NONE);
        Due.text(x, "zz,bb,cc:bb");
        due.is("16 a later one that is nearer", x.nearest(0), 1);
        due.is("16 sure again behind it", x.nearest(2), 1);
        due.is("16 nearest(3)", x.nearest(3), ArmSignals.BAD);
        due.is("16 nearest(-1)", x.nearest(-1), ArmSignals.BAD);
    }

    private static void slips() {
        ArmSignals x = new ArmSignals();
        due.is("17 nothing", x.slips(0) + x.slips(1) + x.slips(2), 0);
        // u 3 5: 4 5 is CALL, 2 5 q, 3 6 y, 3 4 t. g 0 7: 1 7 n, 7 7, 0 0, 0 6 f.
        Due.text(x, ":u");
        due.is("17 CALL is none", x.slips(0), 1);
        due.is("17 u, others", x.slips(1), 3);
        due.is("17 no WORD", x.slips(2), 0);
        Due.text(x, "ug:ug");
        due.is("17 ug, none", x.slips(0), 3);
        due.is("17 ug, others", x.slips(1), 5);
        due.is("17 one WORD", x.slips(2), 8);
        // b 0 2, c 0 3: by 1 2, 7 2 and 0 1 it is b that is nearer, by 0 3 it is c.
        Due.text(x, "b,c:b");
        due.is("17 by 0 3 it is c", x.slips(2), 3);
        // Not sure without them, but by 0 1 the WORD a is.
        Due.text(x, "a,c:b");
        due.is("17 not sure without", x.nearest(2), 0);
        due.is("17 sure with some", x.slips(2), 1);
        Due.text(x, "b,b:b");
        due.is("17 never sure", x.slips(2), 0);
        Due.text(x, "b:abcdefghijkl");
        due.is("17 twelve letters", x.slips(0) + x.slips(1), 48);
        due.is("17 twelve letters, no WORD", x.slips(2), 0);
        due.is("17 slips(3)", x.slips(3), ArmSignals.BAD);
        due.is("17 slips(-1)", x.slips(-1), ArmSignals.BAD);
    }

    private static void still() {
        ArmSignals x = new ArmSignals();
        due.is("18 no WORD", x.still(0, 0, 0), ArmSignals.BAD);
        // b 0 2 slips to 0 3, which is c: told by 10 - c of 10. c slips to d, which is nearer to c.
        Due.text(x, "b,c,bb,bc,cc:");
        due.is("18 b by 4", x.still(0, 4, 0), 3);
        due.is("18 b by 4, below", x.still(0, 4, 1), 5);
        due.is("18 b by 0", x.still(0, 0, 0), 1);
        due.is("18 b by 0, below", x.still(0, 0, 1), 1);
        due.is("18 b by 10", x.still(0, 10, 0), 0);
        due.is("18 b by 10, below", x.still(0, 10, 1), 1);
        due.is("18 c by 10", x.still(1, 10, 0), 1);
        // bb is told if neither slips: 81 of 100; bc if the first does not: 9 of 10; cc always.
        due.is("18 bb by 1", x.still(2, 1, 0), 81);
        due.is("18 bb by 1, below", x.still(2, 1, 1), 100);
        due.is("18 bc by 1", x.still(3, 1, 0), 9);
        due.is("18 bc by 1, below", x.still(3, 1, 1), 10);
        due.is("18 cc by 7", x.still(4, 7, 0), 1);
        due.is("18 still(5, 1, 0)", x.still(5, 1, 0), ArmSignals.BAD);
        due.is("18 still(-1, 1, 0)", x.still(-1, 1, 0), ArmSignals.BAD);
        due.is("18 still(0, 11, 0)", x.still(0, 11, 0), ArmSignals.BAD);
        due.is("18 still(0, -1, 0)", x.still(0, -1, 0), ArmSignals.BAD);
        due.is("18 still(0, 1, 2)", x.still(0, 1, 2), ArmSignals.BAD);
        due.is("18 still(0, 1, -1)", x.still(0, 1, -1), ArmSignals.BAD);
        // Six letters: 9 to the 6th of a million.
        Due.text(x, "bbbbbb,cbbbbb,bcbbbb,bbcbbb,bbbcbb,bbbbcb:");
        due.is("18 the last may slip", x.still(0, 1, 0), 59049);
        due.is("18 the last may slip, below", x.still(0, 1, 1), 100000);
        Due.text(x, "b,b:");
        due.is("18 never sure", x.still(0, 3, 0), 0);
        due.is("18 never sure, below", x.still(0, 3, 1), 1);
    }
}
