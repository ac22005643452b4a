/** Promises 26 to 31: sheets that may be missing; sentence by sentence. */
public final class SheetsTest {
    private static final int MAX = Integer.MAX_VALUE, MIN = Integer.MIN_VALUE;
    private static final Due due = new Due();

    public static void main(String[] args) {
        seen();
        seenRefused();
        seenNot();
        film();
        filmEnds();
        filmRefused();
        sheet();
        sheetRefused();
        drop();
        item();
        itemRefused();
        copy();
        copyRefused();
        copyIndex();
        due.end();
    }

    /** Puts DIRECTIONS, or other numbers, into a SHEET from item 0 on. */
    private static void fill(ArmSignals x, int sheet, int lane, long... items) {
        for (int i = 0; i < items.length; i++) {
            due.is("item " + i, x.item(sheet, lane, i, items[i]), 1);
        }
    }

    /**
     * The first n items of a SHEET, - for what is no DIRECTION. Each is told by the WORDS that are nearest to it
     * and 0, and to it and 1; SHEET 3, the WORDS and THE MESSAGE are others then.
     */
    private static String row(ArmSignals x, int sheet, int lane, int n) {
        StringBuilder row = new StringBuilder();
        int[] byZero = new int[n];
        x.sheet(3, lane, 2);
        Due.text(x, "a,b,c,d,e,f:");
        for (int i = 0; i < n; i++) {
            x.copy(sheet, i, 3, 0, 1);
            byZero[i] = x.seen(3, lane, 0, 1);
        }
        x.item(3, lane, 1, 1);
        Due.text(x, "h,a,n,m:");
        for (int i = 0; i < n; i++) {
            x.copy(sheet, i, 3, 0, 1);
            int byOne = x.seen(3, lane, 0, 1);
            int direction = byZero[i] == 0 ? 1 - byOne : byZero[i] == 5 ? 9 - byOne : byZero[i] + 1;
            row.append(byOne == ArmSignals.NOT ? "-" : "" + direction);
        }
        return row.toString();
    }

    private static void seen() {
        due.says(26, "SIGNS are told by 2 n items (n 1 .. 6) of a SHEET taken as a row of a LANE, two DIRECTIONS each, "
            + "from item i on: which WORD is NEAREST (NONE).");
        ArmSignals x = Due.made("ab,ac,c,abcdef:zz");
        for (int lane = 0; lane < 4; lane++) {
            x.sheet(lane, lane, 13);
            fill(x, lane, lane, 1, 0, 2, 0, 0, 3, 0, 4, 0, 5, 0, 6, 7);
            due.is("ab", x.seen(lane, lane, 0, 2), 0);
            due.is("b, c: ac is nearer", x.seen(lane, lane, 2, 2), 1);
            due.is("c, n 1", x.seen(lane, lane, 4, 1), 2);
            due.is("the last two items", x.seen(lane, lane, 11, 1), 2);
            due.is("abcdef, n 6", x.seen(lane, lane, 0, 6), 3);
            due.is("from 1 on to the last", x.seen(lane, lane, 1, 6), 3);
            due.is("none of 3", x.seen(lane, lane, 0, 3), ArmSignals.NONE);
            due.is("none of 5", x.seen(lane, lane, 3, 5), ArmSignals.NONE);
        }
        // h 1 2, z 6 7, w 5 6: each item is looked at, each for its own SIGN.
        ArmSignals y = Due.made("hzw,hzh,hhw,zzw,wzw:");
        y.sheet(0, 1, 8);
        fill(y, 0, 1, 4, 1, 2, 6, 7, 5, 6, 4);
        due.is("hzw", y.seen(0, 1, 1, 3), 0);
        fill(y, 0, 1, 4, 1, 2, 6, 7, 1, 2, 4);
        due.is("hzh", y.seen(0, 1, 1, 3), 1);
        fill(y, 0, 1, 4, 1, 2, 1, 2, 5, 6, 4);
        due.is("hhw", y.seen(0, 1, 1, 3), 2);
        fill(y, 0, 1, 4, 6, 7, 6, 7, 5, 6, 4);
        due.is("zzw", y.seen(0, 1, 1, 3), 3);
        fill(y, 0, 1, 4, 5, 6, 6, 7, 5, 6, 4);
        due.is("wzw", y.seen(0, 1, 1, 3), 4);
        // Of 12 items each one tells.
        y = Due.made("dddddd:");
        y.sheet(0, 0, 12);
        for (int i = 0; i < 12; i++) {
            y.item(0, 0, i, 9);
            due.is("no DIRECTION at " + i, y.seen(0, 0, 0, 6), ArmSignals.NOT);
            y.item(0, 0, i, 4 * (i % 2));
        }
        due.is("dddddd", y.seen(0, 0, 0, 6), 0);
        x.item(2, 2, 0, 3);
        x.item(2, 2, 1, 3);
        due.is("two like DIRECTIONS: 3 3 is 3 from c", x.seen(2, 2, 0, 1), 2);
        Due.text(x, ":abc");
        due.is("no WORDS", x.seen(0, 0, 0, 1), ArmSignals.NONE);
        // 0 1, 0 2 is as near to both: the least number.
        Due.text(x, "ah,ac:");
        due.is("of like ones the least number", x.seen(0, 0, 0, 2), 0);
        Due.text(x, "ac,ah:");
        due.is("of like ones the least number, too", x.seen(0, 0, 0, 2), 0);
    }

    private static void seenRefused() {
        due.says(26, "BAD; NULL; CAST; INDEX;");
        ArmSignals x = Due.made("a,bb,ccc,dddd,eeeee,ffffff:");
        x.sheet(0, 2, 24);
        x.sheet(1, 0, 12);
        due.range("sheet", 0, 3, s -> x.seen(s, 2, 0, 1));
        due.range("lane", 0, 3, lane -> x.seen(0, lane, 0, 1));
        due.range("n", 1, 6, n -> x.seen(0, 2, 0, n));
        due.range("n, of nothing", 1, 6, n -> x.seen(3, 2, 0, n));
        due.bad("n whose double is as told", n -> x.seen(0, 2, 0, n), MIN + 1, MIN + 6, (1 << 30) + 1, 1 << 31);
        due.is("nothing", x.seen(2, 2, 0, 1), ArmSignals.NULL);
        for (int lane = 0; lane < 4; lane++) {
            due.is("taken as " + lane, x.seen(1, lane, 1, 6), lane == 0 ? ArmSignals.INDEX : ArmSignals.CAST);
        }
        due.is("12 of 12 items", x.seen(1, 0, 0, 6), 5);
        due.is("from 1 on", x.seen(1, 0, 1, 6), ArmSignals.INDEX);
        due.is("2 items of 2", x.seen(1, 0, 10, 1), 0);
        due.is("2 items of 1", x.seen(1, 0, 11, 1), ArmSignals.INDEX);
        due.is("2 items of none", x.seen(1, 0, 12, 1), ArmSignals.INDEX);
        due.is("behind the end", x.seen(1, 0, 13, 1), ArmSignals.INDEX);
        due.is("i -1", x.seen(1, 0, -1, 1), ArmSignals.INDEX);
        due.is("i -2, so that it ends at 0", x.seen(1, 0, -2, 1), ArmSignals.INDEX);
        due.is("i most", x.seen(1, 0, MAX, 6), ArmSignals.INDEX);
        due.is("i least", x.seen(1, 0, MIN, 1), ArmSignals.INDEX);
        due.is("i most but one", x.seen(0, 2, MAX - 1, 1), ArmSignals.INDEX);
        x.sheet(1, 0, 0);
        due.is("a row of none", x.seen(1, 0, 0, 1), ArmSignals.INDEX);
        x.sheet(1, 0, 1);
        due.is("a row of one", x.seen(1, 0, 0, 1), ArmSignals.INDEX);
    }

    private static void seenNot() {
        due.says(26, "NOT: an item is no DIRECTION.");
        ArmSignals x = Due.made("c,ab:");
        for (int lane = 0; lane < 4; lane++) {
            x.sheet(0, lane, 6);
            fill(x, 0, lane, 8, 0, 7, -1, 0, 9);
            due.is("8", x.seen(0, lane, 0, 1), ArmSignals.NOT);
            due.is("0 and 7 are DIRECTIONS", x.seen(0, lane, 1, 1), 0);
            due.is("-1", x.seen(0, lane, 3, 1), ArmSignals.NOT);
            due.is("-1, the second one", x.seen(0, lane, 2, 1), ArmSignals.NOT);
            due.is("the first of four", x.seen(0, lane, 0, 2), ArmSignals.NOT);
            due.is("the last of four", x.seen(0, lane, 2, 2), ArmSignals.NOT);
            due.is("with no WORD as long", x.seen(0, lane, 0, 3), ArmSignals.NOT);
            due.is("INDEX ahead of NOT", x.seen(0, lane, 5, 1), ArmSignals.INDEX);
            due.is("CAST ahead of NOT", x.seen(0, 3 - lane, 0, 1), ArmSignals.CAST);
            due.is("BAD ahead of NOT", x.seen(0, lane, 0, 7), ArmSignals.BAD);
        }
        x.sheet(0, 3, 2);
        fill(x, 0, 3, 1L << 32, 3);
        due.is("a long whose lowest 32 bits are a DIRECTION", x.seen(0, 3, 0, 1), ArmSignals.NOT);
        fill(x, 0, 3, 3, Long.MIN_VALUE);
        due.is("the least long", x.seen(0, 3, 0, 1), ArmSignals.NOT);
        fill(x, 0, 3, Long.MAX_VALUE, 3);
        due.is("the greatest long", x.seen(0, 3, 0, 1), ArmSignals.NOT);
    }

    private static void film() {
        due.says(27, "DIRECTIONS of the left, the right arm by THE WAY, two items for each SIGN of THE MESSAGE, "
            + "come to a SHEET likewise: how many items.");
        for (int lane = 0; lane < 4; lane++) {
            ArmSignals x = Due.made(":dat");
            x.sheet(1, lane, 9);
            fill(x, 1, lane, 5, 5, 5, 5, 5, 5, 5, 5, 5);
            due.is("dat, lane " + lane, x.film(1, lane, 2), 6);
            due.is("those items alone", row(x, 1, lane, 9), "550401345");
        }
        ArmSignals dear = Due.made(":dat");
        dear.tell(1, 3);
        dear.sheet(1, 2, 6);
        due.is("a dear right arm", dear.film(1, 2, 0), 6);
        due.is("left first", row(dear, 1, 2, 6), "401043");
        ArmSignals one = Due.made(":g");
        one.sheet(0, 0, 2);
        due.is("one SIGN", one.film(0, 0, 0), 2);
        due.is("left 0", row(one, 0, 0, 2), "07");
        ArmSignals twelve = Due.made(":abcdefghijkl");
        twelve.sheet(0, 3, 24);
        due.is("twelve SIGNS", twelve.film(0, 3, 0), 24);
        // Of LETTERS whose lesser DIRECTION stays 0 the right arm takes the other; at j 4 6 the left one crosses.
        due.is("all of them", row(twelve, 0, 3, 24), "010203040506071213641415");
    }

    private static void filmEnds() {
        due.says(27, "two items for each SIGN of THE MESSAGE, come to a SHEET likewise: how many items.");
        ArmSignals x = new ArmSignals();
        x.sheet(0, 0, 3);
        fill(x, 0, 0, 5, 6, 7);
        due.is("no SIGNS", x.film(0, 0, 0), 0);
        due.is("no SIGNS, within", x.film(0, 0, 2), 0);
        due.is("no SIGNS, at the end", x.film(0, 0, 3), 0);
        due.is("no items", row(x, 0, 0, 3), "567");
        x.sheet(1, 2, 0);
        Due.text(x, ":");
        due.is("no SIGNS, of no items", x.film(1, 2, 0), 0);
        due.is("nothing to be undone by it", x.count(5), 3);
        Due.text(x, ":d");
        due.is("within", x.film(0, 0, 0), 2);
        due.is("up to the end", x.film(0, 0, 1), 2);
        due.is("over what came first", row(x, 0, 0, 3), "004");
    }

    private static void filmRefused() {
        due.says(27, "BAD; NULL; CAST; INDEX.");
        ArmSignals x = Due.made(":dat");
        x.sheet(0, 2, 8);
        x.sheet(1, 1, 5);
        fill(x, 1, 1, 5, 5, 5, 5, 5);
        due.range("sheet", 0, 3, s -> x.film(s, 2, 0));
        due.range("lane", 0, 3, lane -> x.film(0, lane, 0));
        due.is("nothing", x.film(2, 2, 0), ArmSignals.NULL);
        due.is("nothing, NULL ahead of INDEX", x.film(2, 2, -1), ArmSignals.NULL);
        for (int lane = 0; lane < 4; lane++) {
            due.is("taken as " + lane, x.film(1, lane, 9), lane == 1 ? ArmSignals.INDEX : ArmSignals.CAST);
        }
        due.is("6 of 6", x.film(0, 2, 2), 6);
        due.is("6 of 5", x.film(0, 2, 3), ArmSignals.INDEX);
        due.is("6 of a row of 5", x.film(1, 1, 0), ArmSignals.INDEX);
        due.is("at the end", x.film(0, 2, 8), ArmSignals.INDEX);
        due.is("i -1", x.film(0, 2, -1), ArmSignals.INDEX);
        due.is("i -6, so that it ends at 0", x.film(0, 2, -6), ArmSignals.INDEX);
        due.is("i most", x.film(0, 2, MAX), ArmSignals.INDEX);
        due.is("i most less 5", x.film(0, 2, MAX - 5), ArmSignals.INDEX);
        due.is("i least", x.film(0, 2, MIN), ArmSignals.INDEX);
        due.is("refused, no item comes", row(x, 1, 1, 5), "55555");
        Due.text(x, ":");
        due.is("no SIGNS, behind the end", x.film(0, 2, 9), ArmSignals.INDEX);
        due.is("no SIGNS, i -1", x.film(0, 2, -1), ArmSignals.INDEX);
        due.is("no SIGNS, i most", x.film(0, 2, MAX), ArmSignals.INDEX);
        due.is("no SIGNS, nothing", x.film(2, 2, 0), ArmSignals.NULL);
        due.is("no SIGNS, another LANE", x.film(0, 1, 0), ArmSignals.CAST);
        due.is("no SIGNS, lane 4", x.film(2, 4, 0), ArmSignals.BAD);
    }

    private static void sheet() {
        due.says(28, "A SHEET holds a new row of a LANE: n.");
        ArmSignals x = new ArmSignals();
        for (int s = 0; s < 4; s++) {
            due.is("sheet " + s, x.sheet(s, s, 8 * s), 8 * s);
        }
        for (int s = 0; s < 4; s++) {
            for (int lane = 0; lane < 4; lane++) {
                due.is("of LANE " + s + " alone", x.film(s, lane, 0), lane == s ? 0 : ArmSignals.CAST);
            }
            due.is("how many", x.drop(s), 8 * s);
        }
        due.is("the fewest", x.sheet(0, 3, 0), 0);
        due.is("the most", x.sheet(0, 3, 24), 24);
        due.is("one", x.sheet(0, 0, 1), 1);
        due.is("the last one is", x.drop(0), 1);
        x.sheet(0, 1, 24);
        for (int i = 0; i < 24; i++) {
            x.item(0, 1, i, 7);
        }
        x.sheet(0, 1, 24);
        due.is("a new row is of zeros", row(x, 0, 1, 24), "000000000000000000000000");
        fill(x, 0, 1, 5, 5, 5);
        x.sheet(0, 1, 1);
        x.sheet(0, 1, 3);
        due.is("a longer one, too", row(x, 0, 1, 3), "000");
        fill(x, 0, 1, 5, 5, 5);
        x.drop(0);
        x.sheet(0, 2, 3);
        due.is("and one of another LANE", row(x, 0, 2, 3), "000");
        x.sheet(1, 2, 3);
        fill(x, 1, 2, 4, 4, 4);
        due.is("each by itself", row(x, 0, 2, 3), "000");
    }

    private static void sheetRefused() {
        due.says(28, "BAD: also n above 24; SIZE: n below 0.");
        due.range("sheet", 0, 3, s -> new ArmSignals().sheet(s, 0, 1));
        due.range("lane", 0, 3, lane -> new ArmSignals().sheet(0, lane, 1));
        ArmSignals x = new ArmSignals();
        x.sheet(0, 1, 3);
        fill(x, 0, 1, 5, 6, 7);
        due.bad("n above 24", n -> x.sheet(0, 0, n), 25, 26, 256, 1 << 30, MAX);
        for (int n : new int[] {-1, -2, -24, -25, MIN + 24, MIN}) {
            due.is("n " + n, x.sheet(0, 0, n), ArmSignals.SIZE);
            due.is("n " + n + ", of nothing", x.sheet(2, 3, n), ArmSignals.SIZE);
            due.is("n " + n + ", BAD ahead of SIZE", x.sheet(0, 4, n), ArmSignals.BAD);
            due.is("n " + n + ", BAD ahead of SIZE, too", x.sheet(0, -1, n), ArmSignals.BAD);
            due.is("n " + n + ", sheet 4", x.sheet(4, 0, n), ArmSignals.BAD);
            due.is("n " + n + ", sheet -1", x.sheet(-1, 0, n), ArmSignals.BAD);
        }
        due.is("refused, nothing is held", x.drop(2), ArmSignals.NULL);
        due.is("refused, the row stays", row(x, 0, 1, 3), "567");
        due.is("as long", x.drop(0), 3);
    }

    private static void drop() {
        due.says(29, "A SHEET holds nothing: how many items it had.");
        ArmSignals x = new ArmSignals();
        for (int s = 0; s < 4; s++) {
            x.sheet(s, s, 5 + s);
        }
        due.is("five", x.drop(0), 5);
        due.is("nothing there", x.item(0, 0, 0, 1), ArmSignals.NULL);
        due.is("the others stay", x.drop(1) + 10 * x.drop(3), 6 + 10 * 8);
        x.sheet(3, 1, 0);
        due.is("a row of none is not nothing", x.drop(3), 0);
        x.sheet(3, 1, 24);
        due.is("the most", x.drop(3), 24);
        due.says(29, "BAD; NULL.");
        due.is("nothing at first", new ArmSignals().drop(0), ArmSignals.NULL);
        due.is("nothing again", x.drop(3), ArmSignals.NULL);
        due.is("still nothing", x.drop(3), ArmSignals.NULL);
        due.range("drop(_)", 0, 3, s -> new ArmSignals().drop(s));
        due.bad("with one that stays", s -> x.drop(s), 4, -1, 6, MIN + 2, MAX);
        due.is("refused, it stays", x.drop(2), 7);
    }

    private static void item() {
        due.says(30, "Item i of a SHEET, taken as a row of a LANE, becomes v, its lowest bits: 1.");
        long[] beyond = {1L << 8, 1L << 16, 1L << 32};
        for (int lane = 0; lane < 4; lane++) {
            ArmSignals x = new ArmSignals();
            x.sheet(0, lane, 24);
            due.is("the first", x.item(0, lane, 0, 7), 1);
            due.is("the last", x.item(0, lane, 23, 6), 1);
            x.item(0, lane, 1, -1);
            x.item(0, lane, 2, 8);
            for (int b = 0; b < 3; b++) {
                x.item(0, lane, 3 + 3 * b, beyond[b] + 3);
                x.item(0, lane, 4 + 3 * b, 4 - beyond[b]);
                // The highest bit of a LANE: below 0 there, above 7 in a wider one, no bit of a narrower one.
                x.item(0, lane, 5 + 3 * b, beyond[b] / 2 + 5);
            }
            x.item(0, lane, 12, Long.MIN_VALUE);
            x.item(0, lane, 13, Long.MIN_VALUE + 2);
            x.item(0, lane, 14, Long.MAX_VALUE);
            String[] due4 = {"34-34534502", "---34-34502", "------34-02", "-----------"};
            due.is("lane " + lane, row(x, 0, lane, 24), "7--" + due4[lane] + "-000000006");
        }
        ArmSignals y = new ArmSignals();
        y.sheet(0, 0, 3);
        fill(y, 0, 0, 1, 2, 3);
        y.item(0, 0, 1, 9);
        y.item(0, 0, 1, 5);
        due.is("it alone, the last time", row(y, 0, 0, 3), "153");
    }

    private static void itemRefused() {
        due.says(30, "BAD; NULL; CAST; INDEX.");
        ArmSignals x = new ArmSignals();
        x.sheet(0, 2, 2);
        x.sheet(1, 0, 2);
        fill(x, 1, 0, 5, 6);
        due.range("sheet", 0, 3, s -> x.item(s, 2, 0, 1));
        due.range("lane", 0, 3, lane -> x.item(0, lane, 0, 1));
        due.is("nothing", x.item(3, 0, 0, 0), ArmSignals.NULL);
        due.is("nothing, NULL ahead of INDEX", x.item(3, 0, -1, 0), ArmSignals.NULL);
        due.is("nothing, BAD ahead of NULL", x.item(3, 4, -1, 0), ArmSignals.BAD);
        for (int lane = 0; lane < 4; lane++) {
            due.is("taken as " + lane, x.item(1, lane, 2, 0), lane == 0 ? ArmSignals.INDEX : ArmSignals.CAST);
        }
        due.is("another LANE, within", x.item(1, 3, 0, 0), ArmSignals.CAST);
        for (int i : new int[] {2, 3, 24, 25, 256, MAX, MAX - 1, -1, -2, MIN, MIN + 1}) {
            due.is("i " + i, x.item(1, 0, i, 0), ArmSignals.INDEX);
        }
        due.is("refused, the items stay", row(x, 1, 0, 2), "56");
        x.sheet(1, 0, 0);
        due.is("a row of none", x.item(1, 0, 0, 0), ArmSignals.INDEX);
        x.sheet(1, 0, 24);
        due.is("a 25th", x.item(1, 0, 24, 0), ArmSignals.INDEX);
    }

    private static void copy() {
        due.says(31, "n items of a SHEET from i on come to another one (or the same) from j on, "
            + "as if all were taken ahead: n.");
        for (int lane = 0; lane < 4; lane++) {
            ArmSignals x = new ArmSignals();
            x.sheet(0, lane, 8);
            fill(x, 0, lane, 0, 1, 2, 3, 4, 5, 6, 7);
            x.sheet(1, lane, 6);
            due.is("to another one", x.copy(0, 1, 1, 2, 3), 3);
            due.is("to its last", x.copy(0, 7, 1, 5, 1), 1);
            due.is("there", row(x, 1, lane, 6), "001237");
            due.is("on within itself", x.copy(0, 0, 0, 2, 6), 6);
            due.is("as if taken ahead", row(x, 0, lane, 8), "01012345");
            due.is("back within itself", x.copy(0, 2, 0, 0, 6), 6);
            due.is("as if taken ahead, too", row(x, 0, lane, 8), "01234545");
            due.is("to where it is", x.copy(0, 0, 0, 0, 8), 8);
            due.is("none", x.copy(0, 3, 1, 3, 0), 0);
            due.is("none at both ends", x.copy(0, 8, 1, 6, 0), 0);
            due.is("none within itself", x.copy(0, 8, 0, 8, 0), 0);
            due.is("all stays, from", row(x, 0, lane, 8), "01234545");
            due.is("all stays, to", row(x, 1, lane, 6), "001237");
            due.is("all of a row", x.copy(1, 0, 0, 2, 6), 6);
            due.is("all of it", row(x, 0, lane, 8), "01001237");
            x.item(0, lane, 0, -1);
            x.copy(0, 0, 1, 0, 1);
            due.is("what is no DIRECTION, too", row(x, 1, lane, 6), "-01237");
        }
        ArmSignals y = new ArmSignals();
        y.sheet(0, 3, 24);
        y.sheet(1, 3, 24);
        y.item(0, 3, 23, 5);
        due.is("the most", y.copy(0, 0, 1, 0, 24), 24);
        due.is("the 24th, too", row(y, 1, 3, 24), "000000000000000000000005");
        y.sheet(0, 3, 0);
        due.is("none of none", y.copy(0, 0, 0, 0, 0), 0);
    }

    private static void copyRefused() {
        due.says(31, "BAD; NULL (either); CAST: of unlike LANES;");
        ArmSignals x = new ArmSignals();
        x.sheet(0, 1, 4);
        fill(x, 0, 1, 4, 5, 6, 7);
        x.sheet(1, 1, 2);
        due.range("from", 0, 3, s -> x.copy(s, 0, 1, 0, 1));
        due.range("from, with all else wrong", 0, 3, s -> x.copy(s, -1, 2, -1, -1));
        due.range("to", 0, 3, s -> x.copy(1, 0, s, 0, 1));
        due.range("to, with all else wrong", 0, 3, s -> x.copy(2, -1, s, -1, -1));
        due.is("nothing to come to", x.copy(0, 0, 2, 0, 1), ArmSignals.NULL);
        due.is("nothing to come from", x.copy(2, 0, 0, 0, 1), ArmSignals.NULL);
        due.is("nothing to and from", x.copy(2, 0, 3, 0, 1), ArmSignals.NULL);
        due.is("nothing, to the same", x.copy(2, 0, 2, 0, 0), ArmSignals.NULL);
        due.is("to nothing, NULL ahead of INDEX", x.copy(0, -1, 2, -1, -1), ArmSignals.NULL);
        due.is("from nothing, NULL ahead of INDEX", x.copy(2, 9, 0, 9, 9), ArmSignals.NULL);
        for (int lane = 0; lane < 4; lane++) {
            x.sheet(2, lane, 2);
            due.is("to LANE " + lane, x.copy(0, 0, 2, 0, 1), lane == 1 ? 1 : ArmSignals.CAST);
            due.is("from LANE " + lane, x.copy(2, 0, 1, 0, 1), lane == 1 ? 1 : ArmSignals.CAST);
            due.is("no items, to LANE " + lane, x.copy(0, 0, 2, 0, 0), lane == 1 ? 0 : ArmSignals.CAST);
            due.is("INDEX, to LANE " + lane, x.copy(0, 9, 2, 0, -1), lane == 1 ? ArmSignals.INDEX : ArmSignals.CAST);
        }
    }

    private static void copyIndex() {
        due.says(31, "INDEX (n below 0, too).");
        ArmSignals x = new ArmSignals();
        x.sheet(0, 1, 4);
        fill(x, 0, 1, 4, 5, 6, 7);
        x.sheet(1, 1, 2);
        fill(x, 1, 1, 1, 2);
        int[][] wrong = {
            {0, 0, 3}, {0, 1, 2}, {3, 0, 2}, {4, 0, 1}, {0, 2, 1}, {0, 0, 5}, {0, 0, MAX}, {1, 1, MAX}, {MAX, 0, 1},
            {0, MAX, 1}, {MAX, MAX, MAX}, {0, 0, -1}, {1, 1, -1}, {0, 0, MIN}, {1, 1, MIN}, {4, 2, -1}, {2, 2, -2},
            {-1, 0, 1}, {0, -1, 1}, {-1, -1, 1}, {MIN, 0, 1}, {0, MIN, 1}, {MIN, MIN, MIN}, {5, 2, -1},
            {-1, 0, 0}, {0, -1, 0}, {5, 0, 0}, {0, 3, 0}, {MAX, 0, 0}, {0, MAX, 0}, {MIN, 0, 0}, {0, MIN, 0}};
        for (int[] w : wrong) {
            due.is("i " + w[0] + ", j " + w[1] + ", n " + w[2], x.copy(0, w[0], 1, w[1], w[2]), ArmSignals.INDEX);
        }
        due.is("too many of the shorter", x.copy(1, 0, 0, 0, 3), ArmSignals.INDEX);
        due.is("too far on within itself", x.copy(0, 0, 0, 1, 4), ArmSignals.INDEX);
        due.is("too many from within itself", x.copy(0, 1, 0, 0, 4), ArmSignals.INDEX);
        due.is("refused, all stays, from", row(x, 0, 1, 4), "4567");
        due.is("refused, all stays, to", row(x, 1, 1, 2), "12");
        x.sheet(2, 1, 0);
        due.is("one of none", x.copy(2, 0, 0, 0, 1), ArmSignals.INDEX);
        due.is("one to none", x.copy(0, 0, 2, 0, 1), ArmSignals.INDEX);
        due.is("none to behind none", x.copy(0, 0, 2, 1, 0), ArmSignals.INDEX);
    }
}
