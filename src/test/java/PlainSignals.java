import java.math.BigInteger;
import java.util.ArrayDeque;
import java.util.ArrayList;
import java.util.Deque;
import java.util.HashMap;
import java.util.List;
import java.util.Map;

/**
 * The document once more, by other and slower means (every WAY is tried, texts are taken by a pattern,
 * fractions are of BigInteger), for RandomRunsTest to compare with.
 */
final class PlainSignals {
    private static final String TABLE = "a01b02c03d04e05f06g07h12i13j46k14l15m16n17o23p24q25r26s27t34u35v47w56x57y36z67";

    /** Never changed once it is made. */
    private record Told(String message, List<String> words, int left, int right, int draw) {
        Told saying(String other) {
            return new Told(other, words, left, right, draw);
        }

        Told keeping(List<String> others) {
            return new Told(message, List.copyOf(others), left, right, draw);
        }

        Told drawing(int other) {
            return new Told(message, words, left, right, other);
        }
    }

    private record Image(Told told, List<Told> past) {
    }

    private Told told = new Told("", List.of(), 1, 1, 1);
    private Deque<Told> past = new ArrayDeque<>();
    private Image image = null;
    private StringBuilder tape = new StringBuilder();
    private final Object[] sheets = new Object[4];

    private static int[] dirs(int letter) {
        if (letter == 26) {
            return new int[] {4, 5};
        }
        return new int[] {TABLE.charAt(3 * letter + 1) - '0', TABLE.charAt(3 * letter + 2) - '0'};
    }

    private static int letterOf(int p, int q) {
        for (int l = 0; l < 27; l++) {
            int[] d = dirs(l);
            if (d[0] == p && d[1] == q || d[0] == q && d[1] == p) {
                return l;
            }
        }
        return -4;
    }

    private static int steps(int p, int q) {
        int n = 0;
        while ((p + n) % 8 != q && (q + n) % 8 != p) {
            n++;
        }
        return n;
    }

    private static int far(int[] a, int[] b) {
        int straight = steps(a[0], b[0]) + steps(a[1], b[1]);
        int crossed = steps(a[0], b[1]) + steps(a[1], b[0]);
        return straight < crossed ? straight : crossed;
    }

    private static boolean in(int v, int least, int most) {
        return v >= least && v <= most;
    }

    private void known(Told ahead) {
        past.addLast(ahead);
        if (past.size() > 6) {
            past.removeFirst();
        }
    }

    private void become(Told next) {
        known(told);
        told = next;
    }

    int sign(int letter, int what) {
        if (!in(letter, 0, 25) || !in(what, 0, 2)) {
            return -1;
        }
        if (what < 2) {
            return dirs(letter)[what];
        }
        int turned = letterOf((8 - dirs(letter)[0]) % 8, (8 - dirs(letter)[1]) % 8);
        return turned == 26 ? -4 : turned;
    }

    int letter(int p, int q) {
        return in(p, 0, 7) && in(q, 0, 7) ? letterOf(p, q) : -1;
    }

    int apart(int a, int b) {
        return in(a, 0, 26) && in(b, 0, 26) ? far(dirs(a), dirs(b)) : -1;
    }

    int say(int letter) {
        if (!in(letter, 0, 25)) {
            return -1;
        }
        if (told.message.length() == 12) {
            return -3;
        }
        become(told.saying(told.message + (char) ('a' + letter)));
        return told.message.length();
    }

    int back() {
        int n = told.message.length();
        if (n == 0) {
            return -4;
        }
        int last = told.message.charAt(n - 1) - 'a';
        become(told.saying(told.message.substring(0, n - 1)));
        return last;
    }

    int keep() {
        if (!in(told.message.length(), 1, 6)) {
            return -2;
        }
        if (told.words.size() == 6) {
            return -3;
        }
        List<String> words = new ArrayList<>(told.words);
        words.add(told.message);
        become(told.keeping(words));
        return words.size() - 1;
    }

    int lose(int k) {
        if (!in(k, 0, told.words.size() - 1)) {
            return -1;
        }
        List<String> words = new ArrayList<>(told.words);
        words.remove(k);
        become(told.keeping(words));
        return words.size();
    }

    int call(int k) {
        if (!in(k, 0, told.words.size() - 1)) {
            return -1;
        }
        String all = told.message + told.words.get(k);
        if (all.length() > 12) {
            return -3;
        }
        become(told.saying(all));
        return all.length();
    }

    int tell(int what, int v) {
        if (!in(what, 0, 1) || !in(v, 1, 4)) {
            return -1;
        }
        int was = what == 0 ? told.left : told.right;
        if (was == v) {
            return -2;
        }
        become(new Told(told.message, told.words, what == 0 ? v : told.left, what == 1 ? v : told.right, told.draw));
        return was;
    }

    int said(int k, int i) {
        if (!in(k, -1, told.words.size() - 1) || i < 0) {
            return -1;
        }
        String letters = k == -1 ? told.message : told.words.get(k);
        return i < letters.length() ? letters.charAt(i) - 'a' : -4;
    }

    int count(int what) {
        int turned = 0;
        for (char c : told.message.toCharArray()) {
            turned += sign(c - 'a', 2) >= 0 ? 1 : 0;
        }
        int[] all = {told.message.length(), told.words.size(), told.left, told.right, turned, past.size()};
        return in(what, 0, 5) ? all[what] : -1;
    }

    /** A WAY as bits, the first SIGN's the highest one: with a bit set the left arm is at the greater DIRECTION. */
    private int[] stepsBy(int bits) {
        int n = told.message.length();
        int[] at = {0, 0};
        int[] sum = {0, 0};
        for (int i = 0; i < n; i++) {
            int[] d = dirs(told.message.charAt(i) - 'a');
            int side = bits >> (n - 1 - i) & 1;
            sum[0] += steps(at[0], d[side]);
            sum[1] += steps(at[1], d[1 - side]);
            at = new int[] {d[side], d[1 - side]};
        }
        return sum;
    }

    /** LEAST, how many WAYS, THE WAY. */
    private int[] ways() {
        int least = Integer.MAX_VALUE;
        int many = 0;
        int first = 0;
        for (int bits = 0; bits < 1 << told.message.length(); bits++) {
            int[] sum = stepsBy(bits);
            int effort = told.left * sum[0] + told.right * sum[1];
            if (effort < least) {
                least = effort;
                many = 0;
                first = bits;
            }
            many += effort == least ? 1 : 0;
        }
        return new int[] {least, many, first};
    }

    int least(int what) {
        if (!in(what, 0, 3)) {
            return -1;
        }
        int[] ways = ways();
        return what < 2 ? ways[what] : stepsBy(ways[2])[what - 2];
    }

    int arm(int i, int arm) {
        int n = told.message.length();
        if (!in(i, 0, n - 1) || !in(arm, 0, 1)) {
            return -1;
        }
        int side = ways()[2] >> (n - 1 - i) & 1;
        return dirs(told.message.charAt(i) - 'a')[side ^ arm];
    }

    /** The least EFFORT and the fewest SIGNS from a place of THE MESSAGE on, the arms being where they are. */
    private int[] rest(int place, int l, int r, Map<Integer, int[]> found) {
        if (place == told.message.length()) {
            return new int[] {0, 0};
        }
        int key = place * 64 + l * 8 + r;
        if (found.containsKey(key)) {
            return found.get(key);
        }
        int[] best = {Integer.MAX_VALUE, 0};
        best = lesser(best, bySigns(place + 1, new int[] {told.message.charAt(place) - 'a'}, 0, l, r, found));
        for (int k = 0; k < told.words.size(); k++) {
            String word = told.words.get(k);
            if (told.message.startsWith(word, place)) {
                best = lesser(best, bySigns(place + word.length(), new int[] {26, k}, 0, l, r, found));
            }
        }
        found.put(key, best);
        return best;
    }

    private int[] bySigns(int then, int[] signs, int i, int l, int r, Map<Integer, int[]> found) {
        if (i == signs.length) {
            return rest(then, l, r, found);
        }
        int[] best = {Integer.MAX_VALUE, 0};
        int[] d = dirs(signs[i]);
        for (int side = 0; side < 2; side++) {
            int[] behind = bySigns(then, signs, i + 1, d[side], d[1 - side], found);
            int effort = told.left * steps(l, d[side]) + told.right * steps(r, d[1 - side]);
            best = lesser(best, new int[] {behind[0] + effort, behind[1] + 1});
        }
        return best;
    }

    private static int[] lesser(int[] a, int[] b) {
        return a[0] < b[0] || a[0] == b[0] && a[1] <= b[1] ? a : b;
    }

    int brief(int what) {
        return in(what, 0, 1) ? rest(0, 0, 0, new HashMap<>())[what] : -1;
    }

    /** Number, how far, whether it is SURE; null if there is none. */
    private int[] near(List<int[]> signs) {
        List<int[]> all = new ArrayList<>();
        for (int k = 0; k < told.words.size(); k++) {
            String word = told.words.get(k);
            if (word.length() == signs.size()) {
                int sum = 0;
                for (int i = 0; i < word.length(); i++) {
                    sum += far(signs.get(i), dirs(word.charAt(i) - 'a'));
                }
                all.add(new int[] {k, sum, 1});
            }
        }
        all.sort((a, b) -> a[1] != b[1] ? a[1] - b[1] : a[0] - b[0]);
        if (all.isEmpty()) {
            return null;
        }
        if (all.size() > 1 && all.get(1)[1] == all.get(0)[1]) {
            all.get(0)[2] = 0;
        }
        return all.get(0);
    }

    private static List<int[]> signs(String letters) {
        List<int[]> signs = new ArrayList<>();
        for (char c : letters.toCharArray()) {
            signs.add(dirs(c - 'a'));
        }
        return signs;
    }

    int nearest(int what) {
        if (!in(what, 0, 2)) {
            return -1;
        }
        int[] near = near(signs(told.message));
        return near == null ? -4 : near[what];
    }

    int slips(int what) {
        if (!in(what, 0, 2)) {
            return -1;
        }
        int[] sum = new int[3];
        int[] without = near(signs(told.message));
        for (int i = 0; i < told.message.length(); i++) {
            for (int slip = 0; slip < 4; slip++) {
                List<int[]> signs = signs(told.message);
                int[] d = signs.get(i);
                d[slip / 2] = (d[slip / 2] + (slip % 2 == 0 ? 1 : 7)) % 8;
                int letter = letterOf(d[0], d[1]);
                sum[in(letter, 0, 25) ? 1 : 0]++;
                int[] with = near(signs);
                sum[2] += without != null && with[0] == without[0] && with[2] == 1 ? 1 : 0;
            }
        }
        return sum[what];
    }

    int still(int k, int c, int what) {
        if (!in(k, 0, told.words.size() - 1) || !in(c, 0, 10) || !in(what, 0, 1)) {
            return -1;
        }
        String word = told.words.get(k);
        BigInteger above = BigInteger.ZERO;
        for (int bits = 0; bits < 1 << word.length(); bits++) {
            List<int[]> signs = signs(word);
            BigInteger odds = BigInteger.ONE;
            for (int i = 0; i < word.length(); i++) {
                boolean slips = (bits & 1 << i) != 0;
                signs.get(i)[1] = (signs.get(i)[1] + (slips ? 1 : 0)) % 8;
                odds = odds.multiply(BigInteger.valueOf(slips ? c : 10 - c));
            }
            int[] near = near(signs);
            above = near[0] == k && near[2] == 1 ? above.add(odds) : above;
        }
        BigInteger below = BigInteger.TEN.pow(word.length());
        BigInteger common = above.gcd(below);
        return (what == 0 ? above : below).divide(common).intValueExact();
    }

    int type(int letter) {
        if (!in(letter, 32, 126)) {
            return -1;
        }
        if (tape.length() == 90) {
            return -3;
        }
        tape.append((char) letter);
        return tape.length();
    }

    private static boolean begins(String text) {
        return text.matches("([a-z]{1,6},){0,5}([a-z]{0,6})|(([a-z]{1,6},){0,5}[a-z]{1,6})?:[a-z]{0,12}");
    }

    int read() {
        String text = tape.toString();
        tape = new StringBuilder();
        String bare = "";
        for (int i = 0; i < text.length(); i++) {
            if (text.charAt(i) != ' ') {
                bare += text.charAt(i);
                if (!begins(bare)) {
                    return -20 - i;
                }
            }
        }
        if (bare.indexOf(':') < 0) {
            return -20 - text.length();
        }
        String words = bare.substring(0, bare.indexOf(':'));
        List<String> all = words.isEmpty() ? List.of() : List.of(words.split(","));
        become(told.keeping(all).saying(bare.substring(bare.indexOf(':') + 1)));
        return told.message.length();
    }

    int drift(int n) {
        if (!in(n, 1, 40)) {
            return -1;
        }
        for (int i = 0; i < n; i++) {
            Told ahead = told;
            Deque<Told> pastAhead = new ArrayDeque<>(past);
            long draw = BigInteger.valueOf(told.draw).multiply(BigInteger.valueOf(1103515245L))
                .add(BigInteger.valueOf(12345)).mod(BigInteger.TWO.pow(31)).longValueExact();
            told = told.drawing((int) draw);
            int x = (int) (draw >> 16);
            int y = x >> 3;
            int deed = x & 7;
            if (deed < 4) {
                say(y % 26);
            } else if (deed == 4) {
                back();
            } else if (deed == 5) {
                call(y % 6);
            } else {
                tell(deed - 6, (y & 3) + 1);
            }
            past = pastAhead;
            known(ahead);
        }
        return told.message.length();
    }

    int undo() {
        if (past.isEmpty()) {
            return -4;
        }
        told = past.removeLast();
        return past.size();
    }

    int seed(int v) {
        if (v < 0) {
            return -1;
        }
        int was = told.draw;
        told = told.drawing(v);
        return was;
    }

    int image() {
        image = new Image(told, new ArrayList<>(past));
        return 1;
    }

    int restore() {
        if (image == null) {
            return -4;
        }
        told = image.told;
        past = new ArrayDeque<>(image.past);
        return 1;
    }

    private static int laneOf(Object row) {
        return row instanceof byte[] ? 0 : row instanceof short[] ? 1 : row instanceof int[] ? 2 : 3;
    }

    private int lacking(int sheet, int lane, long i, long n) {
        if (!in(sheet, 0, 3) || !in(lane, 0, 3)) {
            return -1;
        }
        if (sheets[sheet] == null) {
            return -11;
        }
        if (laneOf(sheets[sheet]) != lane) {
            return -12;
        }
        return i < 0 || n < 0 || i + n > java.lang.reflect.Array.getLength(sheets[sheet]) ? -13 : 0;
    }

    int seen(int sheet, int lane, int i, int n) {
        int lacks = in(n, 1, 6) ? lacking(sheet, lane, i, 2L * n) : -1;
        if (lacks < 0) {
            return lacks;
        }
        List<int[]> signs = new ArrayList<>();
        for (int s = 0; s < n; s++) {
            long p = java.lang.reflect.Array.getLong(sheets[sheet], i + 2 * s);
            long q = java.lang.reflect.Array.getLong(sheets[sheet], i + 2 * s + 1);
            if (p < 0 || p > 7 || q < 0 || q > 7) {
                return -2;
            }
            signs.add(new int[] {(int) p, (int) q});
        }
        int[] near = near(signs);
        return near == null ? -4 : near[0];
    }

    int film(int sheet, int lane, int i) {
        int n = told.message.length();
        int lacks = lacking(sheet, lane, i, 2L * n);
        if (lacks < 0) {
            return lacks;
        }
        for (int s = 0; s < n; s++) {
            item(sheet, lane, i + 2 * s, arm(s, 0));
            item(sheet, lane, i + 2 * s + 1, arm(s, 1));
        }
        return 2 * n;
    }

    int sheet(int sheet, int lane, int n) {
        if (!in(sheet, 0, 3) || !in(lane, 0, 3) || n > 24) {
            return -1;
        }
        if (n < 0) {
            return -14;
        }
        sheets[sheet] = lane == 0 ? new byte[n] : lane == 1 ? new short[n] : lane == 2 ? new int[n] : new long[n];
        return n;
    }

    int drop(int sheet) {
        if (!in(sheet, 0, 3)) {
            return -1;
        }
        if (sheets[sheet] == null) {
            return -11;
        }
        int had = java.lang.reflect.Array.getLength(sheets[sheet]);
        sheets[sheet] = null;
        return had;
    }

    int item(int sheet, int lane, int i, long v) {
        int lacks = lacking(sheet, lane, i, 1);
        if (lacks < 0) {
            return lacks;
        }
        Object row = sheets[sheet];
        if (row instanceof byte[] bytes) {
            bytes[i] = (byte) v;
        } else if (row instanceof short[] shorts) {
            shorts[i] = (short) v;
        } else if (row instanceof int[] ints) {
            ints[i] = (int) v;
        } else if (row instanceof long[] longs) {
            longs[i] = v;
        }
        return 1;
    }

    int copy(int from, int i, int to, int j, int n) {
        if (!in(from, 0, 3) || !in(to, 0, 3)) {
            return -1;
        }
        if (sheets[from] == null || sheets[to] == null) {
            return -11;
        }
        if (laneOf(sheets[from]) != laneOf(sheets[to])) {
            return -12;
        }
        if (lacking(from, laneOf(sheets[from]), i, n) < 0 || lacking(to, laneOf(sheets[to]), j, n) < 0) {
            return -13;
        }
        System.arraycopy(sheets[from], i, sheets[to], j, n);
        return n;
    }
}
