/** Promises 26 to 31: sheets that may be missing. */
public final class SheetsTest {
    private static final int MAX = Integer.MAX_VALUE, MIN = Integer.MIN_VALUE;
    private static final Due due = new Due();

    public static void main(String[] args) {
        seen();
        film();
        sheet();
        drop();
        item();
        copy();
        due.end();
    }

    /** Puts DIRECTIONS, or other numbers, into a SHEET from item 0 on. */
    private static void fill(ArmSignals x, int sheet, int lane, long... items) {
        for (int i = 0; i < items.length; i++) {
            due.is("30 item " + i, x.item(sheet, lane, i, items[i]), 1);
        }
    }

    private static void seen() {
        ArmSignals x = new ArmSignals();
        Due.text(x, "ab,ac,c,abcdef:");
        x.sheet(0, 2, 13);
        fill(x, 0, 2, 1, 0, 2, 0, 0, 3, 0, 4, 0, 5, 0, 6, 9);
        due.is("26 ab", x.seen(0, 2, 0, 2), 0);
        due.is("26 b, c: ac is nearer", x.seen(0, 2, 2, 2), 1);
        due.is("26 c", x.seen(0, 2, 4, 1), 2);
        due.is("26 abcdef", x.seen(0, 2, 0, 6), 3);
        due.is("26 none of 3", x.seen(0, 2, 0, 3), ArmSignals.NONE);
        due.is("26 no DIRECTION", x.seen(0, 2, 11, 1), ArmSignals.NOT);
        due.is("26 no DIRECTION, of 3", x.seen(0, 2, 7, 3), ArmSignals.NOT);
        due.is("26 behind the end", x.seen(0, 2, 12, 1), ArmSignals.INDEX);
        due.is("26 i -1", x.seen(0, 2, -1, 1), ArmSignals.INDEX);
        due.is("26 i most", x.seen(0, 2, MAX, 6), ArmSignals.INDEX);
        due.is("26 i least", x.seen(0, 2, MIN, 1), ArmSignals.INDEX);
        due.is("26 another LANE", x.seen(0, 1, 0, 2), ArmSignals.CAST);
        due.is("26 CAST ahead of INDEX", x.seen(0, 1, 99, 2), ArmSignals.CAST);
        due.is("26 nothing", x.seen(1, 1, 99, 2), ArmSignals.NULL);
        due.is("26 n 0", x.seen(1, 1, 99, 0), ArmSignals.BAD);
        due.is("26 n 7", x.seen(0, 2, 0, 7), ArmSignals.BAD);
        due.is("26 sheet 4", x.seen(4, 2, 0, 1), ArmSignals.BAD);
        due.is("26 sheet -1", x.seen(-1, 2, 0, 1), ArmSignals.BAD);
        due.is("26 lane 4", x.seen(0, 4, 0, 1), ArmSignals.BAD);
        due.is("26 lane -1", x.seen(0, -1, 0, 1), ArmSignals.BAD);
        fill(x, 0, 2, 3, 3, -1, 8);
        due.is("26 two like DIRECTIONS", x.seen(0, 2, 0, 1), 2);
        due.is("26 -1", x.seen(0, 2, 1, 1), ArmSignals.NOT);
        due.is("26 8", x.seen(0, 2, 3, 1), ArmSignals.NOT);
        x.sheet(3, 3, 2);
        fill(x, 3, 3, 1L << 32, 3);
        due.is("26 a long beyond ints", x.seen(3, 3, 0, 1), ArmSignals.NOT);
    }

    private static void film() {
        ArmSignals x = new ArmSignals();
        Due.text(x, "dat,ab,d,a:dat");
        for (int lane = 0; lane < 4; lane++) {
            x.sheet(lane, lane, 8);
            due.is("27 lane " + lane, x.film(lane, lane, 2), 6);
            due.is("27 seen again", x.seen(lane, lane, 2, 3), 0);
            due.is("27 not one item ahead", x.seen(lane, lane, 1, 1), 3);
        }
        due.is("27 behind the end", x.film(0, 0, 3), ArmSignals.INDEX);
        due.is("27 i -1", x.film(0, 0, -1), ArmSignals.INDEX);
        due.is("27 i most", x.film(0, 0, MAX), ArmSignals.INDEX);
        due.is("27 CAST", x.film(0, 1, 99), ArmSignals.CAST);
        x.drop(0);
        due.is("27 NULL", x.film(0, 1, 99), ArmSignals.NULL);
        due.is("27 sheet 4", x.film(4, 0, 0), ArmSignals.BAD);
        due.is("27 sheet -1", x.film(-1, 0, 0), ArmSignals.BAD);
        due.is("27 lane 4", x.film(0, 4, 0), ArmSignals.BAD);
        due.is("27 lane -1", x.film(0, -1, 0), ArmSignals.BAD);
        // By THE WAY left 0, right 4 comes first: which arm is which is seen by taking the items apart.
        Due.text(x, "d,a,g:d");
        x.sheet(0, 0, 3);
        fill(x, 0, 0, 1, 1, 1);
        x.film(0, 0, 1);
        due.is("27 1, left 0 is a", x.seen(0, 0, 0, 1), 1);
        x.tell(1, 2);
        x.film(0, 0, 1);
        x.item(0, 0, 0, 0);
        due.is("27 left 4 then: 0 4 is d", x.seen(0, 0, 0, 1), 0);
        Due.text(x, ":");
        due.is("27 no SIGNS", x.film(0, 0, 0), 0);
        due.is("27 no SIGNS, at the end", x.film(0, 0, 3), 0);
        due.is("27 no SIGNS, behind it", x.film(0, 0, 4), ArmSignals.INDEX);
        due.is("27 no SIGNS, ahead", x.film(0, 0, -1), ArmSignals.INDEX);
        Due.text(x, ":abcdefghijkl");
        x.sheet(1, 3, 24);
        due.is("27 twelve SIGNS", x.film(1, 3, 0), 24);
    }

    private static void sheet() {
        ArmSignals x = new ArmSignals();
        for (int s = 0; s < 4; s++) {
            due.is("28 sheet " + s, x.sheet(s, s, 6 * s), 6 * s);
        }
        due.is("28 24", x.sheet(0, 0, 24), 24);
        due.is("28 25", x.sheet(0, 0, 25), ArmSignals.BAD);
        due.is("28 -1", x.sheet(0, 0, -1), ArmSignals.SIZE);
        due.is("28 least", x.sheet(0, 0, MIN), ArmSignals.SIZE);
        due.is("28 BAD ahead of SIZE", x.sheet(0, 4, -1), ArmSignals.BAD);
        due.is("28 sheet 4", x.sheet(4, 0, 1), ArmSignals.BAD);
        due.is("28 sheet -1", x.sheet(-1, 0, -1), ArmSignals.BAD);
        due.is("28 lane -1", x.sheet(0, -1, 1), ArmSignals.BAD);
        due.is("28 refused, the row stays", x.drop(0), 24);
        Due.text(x, "b,g:");
        x.sheet(0, 0, 2);
        fill(x, 0, 0, 0, 7);
        due.is("28 g", x.seen(0, 0, 0, 1), 1);
        x.sheet(0, 0, 2);
        due.is("28 a new row is of zeros: 0 0", x.seen(0, 0, 0, 1), 1);
        Due.text(x, "a,h:");
        due.is("28 0 0 is nearer to a", x.seen(0, 0, 0, 1), 0);
    }

    private static void drop() {
        ArmSignals x = new ArmSignals();
        due.is("29 nothing", x.drop(3), ArmSignals.NULL);
        x.sheet(3, 1, 5);
        due.is("29 five", x.drop(3), 5);
        due.is("29 nothing again", x.drop(3), ArmSignals.NULL);
        x.sheet(3, 1, 0);
        due.is("29 a row of none", x.drop(3), 0);
        due.is("29 drop(4)", x.drop(4), ArmSignals.BAD);
        due.is("29 drop(-1)", x.drop(-1), ArmSignals.BAD);
    }

    private static void item() {
        ArmSignals x = new ArmSignals();
        due.is("30 nothing", x.item(0, 0, -1, 0), ArmSignals.NULL);
        for (int lane = 0; lane < 4; lane++) {
            x.sheet(lane, lane, 2);
        }
        Due.text(x, "b,g:");
        // 2 and 0 in the lowest bits of each LANE: b.
        fill(x, 0, 0, 0x102, -256);
        due.is("30 bytes", x.seen(0, 0, 0, 1), 0);
        fill(x, 0, 0, 0x82, 0);
        due.is("30 bytes with a sign", x.seen(0, 0, 0, 1), ArmSignals.NOT);
        fill(x, 1, 1, 0x10002, 0x70000);
        due.is("30 shorts", x.seen(1, 1, 0, 1), 0);
        fill(x, 1, 1, 0x102, 0);
        due.is("30 shorts are more than bytes", x.seen(1, 1, 0, 1), ArmSignals.NOT);
        fill(x, 2, 2, 0x100000002L, Long.MIN_VALUE);
        due.is("30 ints", x.seen(2, 2, 0, 1), 0);
        fill(x, 2, 2, 0x10002, 0);
        due.is("30 ints are more than shorts", x.seen(2, 2, 0, 1), ArmSignals.NOT);
        fill(x, 3, 3, 0x100000002L, 0);
        due.is("30 longs", x.seen(3, 3, 0, 1), ArmSignals.NOT);
        due.is("30 i 2", x.item(0, 0, 2, 0), ArmSignals.INDEX);
        due.is("30 i -1", x.item(0, 0, -1, 0), ArmSignals.INDEX);
        due.is("30 i most", x.item(0, 0, MAX, 0), ArmSignals.INDEX);
        due.is("30 CAST ahead of INDEX", x.item(0, 1, 2, 0), ArmSignals.CAST);
        due.is("30 sheet 4", x.item(4, 0, 0, 0), ArmSignals.BAD);
        due.is("30 sheet -1", x.item(-1, 0, 0, 0), ArmSignals.BAD);
        due.is("30 lane 4", x.item(0, 4, 0, 0), ArmSignals.BAD);
        due.is("30 lane -1", x.item(0, -1, 0, 0), ArmSignals.BAD);
        x.sheet(0, 0, 0);
        due.is("30 a row of none", x.item(0, 0, 0, 0), ArmSignals.INDEX);
    }

    private static void copy() {
        ArmSignals x = new ArmSignals();
        Due.text(x, "abc,bcd,aab,bca:");
        x.sheet(0, 1, 8);
        fill(x, 0, 1, 0, 1, 0, 2, 0, 3, 0, 4);
        due.is("31 on within itself", x.copy(0, 0, 0, 2, 4), 4);
        due.is("31 as if taken ahead: aab", x.seen(0, 1, 0, 3), 2);
        fill(x, 0, 1, 0, 1, 0, 2, 0, 3, 0, 4);
        due.is("31 back within itself", x.copy(0, 2, 0, 0, 6), 6);
        due.is("31 as if taken ahead: bcd", x.seen(0, 1, 0, 3), 1);
        x.sheet(1, 1, 6);
        due.is("31 to another one", x.copy(0, 0, 1, 0, 4), 4);
        x.item(1, 1, 5, 1);
        due.is("31 bca", x.seen(1, 1, 0, 3), 3);
        due.is("31 none at the ends", x.copy(0, 8, 1, 6, 0), 0);
        due.is("31 none, i behind", x.copy(0, 9, 1, 6, 0), ArmSignals.INDEX);
        due.is("31 none, j behind", x.copy(0, 8, 1, 7, 0), ArmSignals.INDEX);
        due.is("31 none, i -1", x.copy(0, -1, 1, 0, 0), ArmSignals.INDEX);
        due.is("31 none, j -1", x.copy(0, 0, 1, -1, 0), ArmSignals.INDEX);
        due.is("31 n -1", x.copy(0, 0, 1, 0, -1), ArmSignals.INDEX);
        due.is("31 n most", x.copy(0, 1, 1, 1, MAX), ArmSignals.INDEX);
        due.is("31 i most", x.copy(0, MAX, 1, 0, 1), ArmSignals.INDEX);
        due.is("31 too many for one", x.copy(0, 0, 1, 0, 7), ArmSignals.INDEX);
        due.is("31 too many of the other", x.copy(1, 0, 0, 0, 7), ArmSignals.INDEX);
        due.is("31 refused changes nothing", x.seen(1, 1, 0, 3), 3);
        due.is("31 nothing to come to", x.copy(0, 0, 2, 0, 1), ArmSignals.NULL);
        due.is("31 nothing to come from", x.copy(2, 0, 0, 0, 1), ArmSignals.NULL);
        x.sheet(2, 2, 2);
        due.is("31 unlike LANES", x.copy(0, 0, 2, 0, 1), ArmSignals.CAST);
        due.is("31 CAST ahead of INDEX", x.copy(0, 0, 2, 0, -1), ArmSignals.CAST);
        due.is("31 NULL ahead of INDEX", x.copy(3, 0, 2, 0, -1), ArmSignals.NULL);
        due.is("31 from 4", x.copy(4, 0, 3, 0, -1), ArmSignals.BAD);
        due.is("31 from -1", x.copy(-1, 0, 0, 0, 1), ArmSignals.BAD);
        due.is("31 to 4", x.copy(3, 0, 4, 0, -1), ArmSignals.BAD);
        due.is("31 to -1", x.copy(0, 0, -1, 0, 1), ArmSignals.BAD);
    }
}
