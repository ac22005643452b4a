import java.util.function.IntPredicate;
import java.util.function.ToIntFunction;

/** The Terms: 3, what is done, and the line on sheets; sentence by sentence. */
public final class TermsDoneTest {
    private static final int MAX = Integer.MAX_VALUE;
    private static final Due due = new Due();

    public static void main(String[] args) {
        texts();
        wordsAlone();
        faults();
        faultKinds();
        blanks();
        undone();
        sixKnown();
        whateverSince();
        draw();
        turns();
        turnsRefused();
        sheets();
        due.end();
    }

    private static void isText(String text, int letters, String all) {
        ArmSignals x = new ArmSignals();
        due.is("'" + text + "'", Due.text(x, text), letters);
        due.is("'" + text + "' told", Due.all(x), "11 " + all);
    }

    private static void texts() {
        due.says(0, "A TEXT: WORDS (or none) with , between, : , then LETTERS of THE MESSAGE (or none): a .. z each.");
        isText(":", 0, ":");
        isText("a:", 0, "a:");
        isText(":z", 1, ":z");
        isText("z:a", 1, "z:a");
        isText("abcdef:", 0, "abcdef:");
        isText("ghijkl,mnopqr:stuvwxyz", 8, "ghijkl,mnopqr:stuvwxyz");
        isText("a,b,c,d,e,f:", 0, "a,b,c,d,e,f:");
        isText(":abcdefghijkl", 12, ":abcdefghijkl");
        isText("abcdef,ghijkl,mnopqr,stuvwx,yzabcd,efghij:klmnopqrstuv", 12,
            "abcdef,ghijkl,mnopqr,stuvwx,yzabcd,efghij:klmnopqrstuv");
    }

    private static void wordsAlone() {
        due.says(0, "WORDS are those alone then.");
        ArmSignals x = Due.made("abcdef,b,c,d,e,f:abcdefghijkl");
        due.is("fewer", Due.text(x, "q,r:s"), 1);
        due.is("those alone", Due.all(x), "11 q,r:s");
        due.is("no WORD 2", x.said(2, 0), ArmSignals.BAD);
        due.is("a shorter one", x.said(0, 1), ArmSignals.NONE);
        due.is("none", Due.text(x, ":s"), 1);
        due.is("none then", Due.all(x), "11 :s");
        due.is("nothing at all", Due.text(x, ":"), 0);
        due.is("nothing then", Due.all(x), "11 :");
        due.is("like ones", Due.text(x, "a,a,a,a,a,a:aa"), 2);
        due.is("six", Due.all(x), "11 a,a,a,a,a,a:aa");
        x.tell(0, 2);
        x.seed(8);
        Due.text(x, "b:");
        due.is("costs stay", Due.all(x), "21 b:");
        due.is("THE DRAW stays", Due.draw(x), 8);
    }

    private static void isFault(String text, int place) {
        ArmSignals x = Due.made("w:m");
        due.is("'" + text + "'", Due.text(x, text), -20 - place);
        due.is("'" + text + "', all stays", Due.all(x), "11 w:m");
    }

    private static void faults() {
        due.says(0, "A FAULT is the first letter (behind blanks) that can't stand there");
        isFault("?", 0);
        isFault("   ?", 3);
        isFault("a?", 1);
        isFault("a  ?:", 3);
        isFault("a:?", 2);
        isFault("a: b ?", 5);
        isFault("a:b?c?", 3);
        isFault("::", 1);
        isFault("a:b:", 3);
        isFault("a:b,", 3);
        isFault("a:,", 2);
        isFault(":,", 1);
        // Beside a and z, and all else that may be typed.
        for (int letter = 33; letter <= 126; letter++) {
            if (letter < 'a' || letter > 'z') {
                isFault(":" + (char) letter, 1);
                if (letter != ',' && letter != ':') {
                    isFault("ab" + (char) letter, 2);
                }
            }
        }
    }

    private static void faultKinds() {
        due.says(0, "(what stands where a WORD's first LETTER is due; that behind 6 LETTERS of a WORD, a , behind 6 WORDS; "
            + "a 13th of THE MESSAGE; the end: how many letters there are).");
        isFault(",", 0);
        isFault(",a:", 0);
        isFault("a,,b:", 2);
        isFault("a, ,b:", 3);
        isFault("a,:b", 2);
        isFault("a, :b", 3);
        isFault("a,A:", 2);
        isFault("a,b,c,d,e,:", 10);
        isFault("abcdefg:", 6);
        isFault("abcdef g:", 7);
        isFault("a,abcdefg:", 8);
        isFault("a,b,c,d,e,abcdefg:", 16);
        isFault("abcdef?:", 6);
        isFault("a,b,c,d,e,f,g:", 11);
        isFault("a,b,c,d,e,f ,", 12);
        isFault("a,b,c,d,e,abcdef,", 16);
        isFault(":abcdefghijklm", 13);
        isFault(":abcdefghijkl m", 14);
        isFault("a:abcdefghijklmn", 14);
        isFault(":abcdefghijkl,", 13);
        isFault("", 0);
        isFault(" ", 1);
        isFault("   ", 3);
        isFault("a", 1);
        isFault("abc ", 4);
        isFault("abc,", 4);
        isFault("abc, ", 5);
        isFault("abcdef", 6);
        isFault("a,b,c,d,e,f", 11);
        isFault(" ".repeat(90), 90);
        isFault("a" + " ".repeat(89), 90);
    }

    private static void blanks() {
        due.says(0, "Blanks count for nothing.");
        isText("  a b , c :  d  e ", 2, "ab,c:de");
        isText(" : ", 0, ":");
        isText("a b c d e f:", 0, "abcdef:");
        isText(": a b c d e f g h i j k l ", 12, ":abcdefghijkl");
        isText("a , b , c , d , e , f :", 0, "a,b,c,d,e,f:");
        isText(" ".repeat(89) + ":", 0, ":");
        isText(":" + " ".repeat(88) + "z", 1, ":z");
    }

    /** A deed of a known state, and back: what later calls answer is as it had not been. */
    private static void isUndone(String what, ToIntFunction<ArmSignals> deed) {
        // Behind a TEXT, and behind a LETTER said: what was ahead of the one before must not come back.
        for (int more = 0; more < 2; more++) {
            ArmSignals x = Due.made("ab,c:de");
            ArmSignals without = Due.made("ab,c:de");
            Due.spell(x, "f".repeat(more));
            Due.spell(without, "f".repeat(more));
            due.holds(what + " is done", deed.applyAsInt(x) >= 0);
            due.is(what + " is known", x.count(5), 2 + more);
            due.is(what + " is undone", x.undo(), 1 + more);
            due.is(what + ", as it had not been", Later.of(x), Later.of(without));
        }
    }

    private static void undone() {
        due.says(0, "UNDONE: the latest of a LETTER said, taken back, of a WORD kept, lost, called, of a cost told, of a TEXT, "
            + "a turn of a DRIFT, is as it had not been");
        isUndone("a LETTER said", x -> x.say(25));
        isUndone("a LETTER taken back", ArmSignals::back);
        isUndone("a WORD kept", ArmSignals::keep);
        isUndone("a WORD lost", x -> x.lose(0));
        isUndone("the last WORD lost", x -> x.lose(1));
        isUndone("a WORD called", x -> x.call(0));
        isUndone("a cost told, left", x -> x.tell(0, 4));
        isUndone("a cost told, right", x -> x.tell(1, 4));
        isUndone("a TEXT", x -> Due.text(x, "abcdef,ghijkl,m:nopqrstuvwxy"));
        isUndone("a TEXT of nothing", x -> Due.text(x, ":"));
        isUndone("a TEXT that is the same", x -> Due.text(x, "ab,c:de"));
        isUndone("a turn", x -> x.drift(1));
        for (int rest = 0; rest < 8; rest++) {
            int seed = seedOf(rest, y -> true);
            ArmSignals x = Due.made("ab,c:de");
            ArmSignals without = Due.made("ab,c:de");
            x.seed(seed);
            without.seed(seed);
            x.drift(1);
            due.is("a turn of " + rest, x.undo(), 1);
            due.is("a turn of " + rest + ", as it had not been", Later.of(x), Later.of(without));
        }
        ArmSignals x = Due.made("ab,c:de");
        x.say(0);
        x.tell(0, 2);
        x.undo();
        due.is("the latest", Due.all(x), "11 ab,c:dea");
    }

    private static void sixKnown() {
        due.says(0, "(6 are known, older ones lost):");
        for (int deeds = 0; deeds <= 14; deeds++) {
            ArmSignals x = new ArmSignals();
            String said = "abacadaeafag".substring(0, Math.min(deeds, 12));
            Due.spell(x, said);
            for (int i = 12; i < deeds; i++) {
                x.back();
            }
            int known = Math.min(deeds, 6);
            due.is(deeds + " deeds, known", x.count(5), known);
            for (int i = known - 1; i >= 0; i--) {
                due.is(deeds + " deeds, undone", x.undo(), i);
            }
            int left = deeds - known;
            due.is(deeds + " deeds, left", Due.message(x), said.substring(0, left));
            due.is(deeds + " deeds, no more", x.undo(), ArmSignals.NONE);
            due.is(deeds + " deeds, still", Due.message(x), said.substring(0, left));
        }
        // Those known go round: two undone, four more done, six undone.
        ArmSignals x = new ArmSignals();
        Due.spell(x, "abcdefgh");
        x.undo();
        x.undo();
        Due.spell(x, "wxyz");
        due.is("six again", x.count(5), 6);
        String[] then = {"abcdefwxy", "abcdefwx", "abcdefw", "abcdef", "abcde", "abcd"};
        for (int i = 0; i < 6; i++) {
            due.is("undone", x.undo(), 5 - i);
            due.is("then", Due.message(x), then[i]);
        }
        due.is("older ones are lost", x.undo(), ArmSignals.NONE);
    }

    private static void whateverSince() {
        due.says(0, "all but SHEETS, THE TAPE, IMAGES is as ahead of it, whatever was told since.");
        ArmSignals x = Due.made("ab,c:de");
        x.seed(5);
        x.say(0);
        x.seed(9);
        x.seed(7);
        due.is("undone", x.undo(), 1);
        due.is("THE DRAW as ahead of it", Due.draw(x), 5);
        x.sheet(0, 0, 3);
        x.sheet(2, 1, 4);
        x.type('q');
        x.say(0);
        x.sheet(0, 1, 5);
        x.item(0, 1, 0, 7);
        x.sheet(1, 2, 2);
        x.drop(2);
        x.type(':');
        x.image();
        due.is("undone, too", x.undo(), 1);
        due.is("SHEETS stay", x.drop(0) * 10 + x.drop(1), 52);
        due.is("one that is dropped stays dropped", x.drop(2), ArmSignals.NULL);
        due.is("THE TAPE stays", x.type('r'), 3);
        due.is("an IMAGE stays", x.restore(), 1);
        due.is("as it was", Due.all(x), "11 ab,c:dea");
        due.is("the TAPE is of no IMAGE", x.read(), 1);
        due.is("read", Due.all(x), "11 q:r");
        due.is("a TEXT undone", x.undo(), 2);
        due.is("but THE TAPE is empty still", x.read(), -20);
        // An IMAGE taken back to is what is ahead of the next deed.
        x.image();
        x.tell(1, 3);
        x.restore();
        x.say(1);
        x.undo();
        due.is("as ahead of it", Due.all(x), "11 ab,c:dea");
    }

    private static long drawn(long draw) {
        return (draw * 1103515245L + 12345L) % 2147483648L;
    }

    /** The least seed whose turn has that rest by 8, and a y as asked. */
    private static int seedOf(int rest, IntPredicate y) {
        for (int seed = 0; seed < 1000000; seed++) {
            long x = drawn(seed) / 65536;
            if (x % 8 == rest && y.test((int) (x / 8))) {
                return seed;
            }
        }
        throw new IllegalStateException("no seed of " + rest);
    }

    private static void draw() {
        due.says(0, "DRIFT by a seed: THE DRAW is a number of 31 bits (1 at first); for each turn it becomes the lowest 31 bits "
            + "of itself times 1103515245 and 12345 more:");
        due.is("1 at first", new ArmSignals().seed(0), 1);
        // 2147483647 is -1 in 31 bits: -1103515245 and 12345 more is -1103502900, 1043980748 in 31 bits.
        int[] from = {0, 1, MAX, 1103527590, 1 << 30};
        long[] to = {12345, 1103527590, 1043980748, 377401575, drawn(1 << 30)};
        for (int i = 0; i < from.length; i++) {
            ArmSignals x = new ArmSignals();
            x.seed(from[i]);
            x.drift(1);
            due.is("of " + from[i], Due.draw(x), to[i]);
        }
        ArmSignals x = new ArmSignals();
        long draw = 1;
        for (int i = 1; i <= 40; i++) {
            draw = drawn(draw);
            x.drift(1);
            due.is("of turn " + i, Due.draw(x), draw);
            due.holds("31 bits", Due.draw(x) >= 0);
        }
        ArmSignals once = new ArmSignals();
        once.drift(40);
        due.is("forty at once", Due.draw(once), draw);
    }

    /** A turn by a seed, of two LETTERS said, six WORDS kept. */
    private static String turned(int seed) {
        ArmSignals x = Due.made("p,q,r,s,t,uv:de");
        x.tell(0, 2);
        x.tell(1, 3);
        x.seed(seed);
        int letters = x.drift(1);
        due.is("how many", letters, x.count(0));
        due.is("THE DRAW", Due.draw(x), drawn(seed));
        due.is("one deed", x.count(5), 4);
        return Due.all(x);
    }

    private static void turns() {
        due.says(0, "x is it by 65536 (cut), y x by 8 (cut). x left over by 8 is 0 .. 3: say(y left over by 26); 4: back(); "
            + "5: call(y left over by 6); 6: tell(0, y left over by 4, and 1); 7: tell(1, likewise).");
        for (int rest = 0; rest < 4; rest++) {
            for (int l = 0; l < 26; l++) {
                int letter = l;
                int seed = seedOf(rest, y -> y % 26 == letter && y >= 26);
                due.is("say by " + rest, turned(seed), "23 p,q,r,s,t,uv:de" + (char) ('a' + l));
            }
        }
        due.is("back", turned(seedOf(4, y -> true)), "23 p,q,r,s,t,uv:d");
        String[] words = {"p", "q", "r", "s", "t", "uv"};
        for (int k = 0; k < 6; k++) {
            int word = k;
            due.is("call", turned(seedOf(5, y -> y % 6 == word && y >= 6)), "23 p,q,r,s,t,uv:de" + words[k]);
        }
        for (int v = 1; v <= 4; v++) {
            int cost = v;
            due.is("left", turned(seedOf(6, y -> y % 4 == cost - 1 && y >= 4)), v + "3 p,q,r,s,t,uv:de");
            due.is("right", turned(seedOf(7, y -> y % 4 == cost - 1 && y >= 4)), "2" + v + " p,q,r,s,t,uv:de");
        }
        // Cut: the lowest x, the greatest x, and one less than a whole 65536.
        due.is("x and y of 0: say(0)", turned(seedOf(0, y -> y == 0)), "23 p,q,r,s,t,uv:dea");
        due.is("the greatest: y 4095, tell(1, 4)", turned(seedOf(7, y -> y == 4095)), "24 p,q,r,s,t,uv:de");
        due.is("one more: y 4095, tell(0, 4)", turned(seedOf(6, y -> y == 4095)), "43 p,q,r,s,t,uv:de");
    }

    private static void isNothing(String what, String text, int rest, IntPredicate y) {
        ArmSignals x = Due.made(text);
        int seed = seedOf(rest, y);
        x.seed(seed);
        due.is(what, x.drift(1), x.count(0));
        due.is(what + ", nothing", Due.all(x), "11 " + text);
        due.is(what + ", THE DRAW", Due.draw(x), drawn(seed));
        due.is(what + ", known", x.undo(), 1);
        due.is(what + ", undone", Due.draw(x), seed);
    }

    private static void turnsRefused() {
        due.says(0, "(Nothing, if that is refused.)");
        for (int rest = 0; rest < 4; rest++) {
            isNothing("say, FULL", "a:abcdefghijkl", rest, y -> true);
        }
        isNothing("back, NONE", "a:", 4, y -> true);
        isNothing("call, no WORD", ":a", 5, y -> y % 6 == 0);
        isNothing("call, no such WORD", "a,b,c,d,e:a", 5, y -> y % 6 == 5);
        isNothing("call, FULL", "abcdef,b:abcdefg", 5, y -> y % 6 == 0);
        isNothing("tell, it is so", ":a", 6, y -> y % 4 == 0);
        isNothing("tell, it is so, right", ":a", 7, y -> y % 4 == 0);
        ArmSignals x = Due.made("abcdef:abcdef");
        x.seed(seedOf(5, y -> y % 6 == 0));
        due.is("call, just not FULL", x.drift(1), 12);
    }

    private static void sheets() {
        due.says(0, "sheets 0 .. 3: nothing (at first), or a row of a LANE: 0 bytes, 1 shorts, 2 ints, 3 longs "
            + "(all with a sign), of 0 to 24 items.");
        for (int s = 0; s < 4; s++) {
            due.is("nothing at first", new ArmSignals().drop(s), ArmSignals.NULL);
        }
        due.range("sheets", 0, 3, s -> new ArmSignals().drop(s));
        due.range("lanes", 0, 3, lane -> new ArmSignals().sheet(0, lane, 24));
        for (int n = -1; n <= 25; n++) {
            ArmSignals x = new ArmSignals();
            due.is("of " + n + " items", x.sheet(3, 3, n), n < 0 ? ArmSignals.SIZE : n > 24 ? ArmSignals.BAD : n);
            due.is("held", x.drop(3), n < 0 || n > 24 ? ArmSignals.NULL : n);
        }
        // An item and 0 are told as a WORD, if it is a DIRECTION in that LANE. v is 7 in the lowest bits.
        int[] bits = {8, 16, 32, 64};
        for (int lane = 0; lane < 4; lane++) {
            for (int other = 0; other < 3; other++) {
                ArmSignals x = Due.made("g:");
                x.sheet(lane, lane, 2);
                x.item(lane, lane, 0, (1L << bits[other]) + 7);
                due.is("LANE " + lane + ", 7 in " + bits[other] + " bits", x.seen(lane, lane, 0, 1),
                    lane <= other ? 0 : ArmSignals.NOT);
                x.item(lane, lane, 0, (1L << bits[lane] - 1) + 7);
                due.is("LANE " + lane + ", with a sign", x.seen(lane, lane, 0, 1), ArmSignals.NOT);
                x.item(lane, lane, 0, -1);
                due.is("LANE " + lane + ", -1", x.seen(lane, lane, 0, 1), ArmSignals.NOT);
            }
        }
    }
}
