import java.util.Arrays;

/** Signals by two arms. What each call promises stands in the project's document, promise by promise. */
public final class ArmSignals {
    public static final int BAD = -1, NOT = -2, FULL = -3, NONE = -4, NULL = -11, CAST = -12, INDEX = -13, SIZE = -14;

    private static final int DIRECTIONS = 8;
    private static final int LETTERS = 26;
    private static final int CALL_SIGN = 26;
    private static final int SIGNS = 27;
    private static final int MOST_SAID = 12;
    private static final int MOST_WORDS = 6;
    private static final int LONGEST_WORD = 6;
    private static final int DEAREST_STEP = 4;
    private static final int MOST_KNOWN = 6;
    private static final int MOST_TYPED = 90;
    private static final int MOST_TURNS = 40;
    private static final int MESSAGE = -1;
    private static final int FAULT = -20;
    private static final int TENTHS = 10;
    private static final int SHEETS = 4;
    private static final int LANES = 4;
    private static final int LONGEST_SHEET = 24;

    // By LETTER, a .. z, with CALL behind them.
    private static final int[] LESSER =
        {0, 0, 0, 0, 0, 0, 0, 1, 1, 4, 1, 1, 1, 1, 2, 2, 2, 2, 2, 3, 3, 4, 5, 5, 3, 6, 4};
    private static final int[] GREATER =
        {1, 2, 3, 4, 5, 6, 7, 2, 3, 6, 4, 5, 6, 7, 3, 4, 5, 6, 7, 4, 5, 7, 6, 7, 6, 7, 5};

    private final Station now = new Station();
    private final Past past = new Past();
    private final Station imageNow = new Station();
    private final Past imagePast = new Past();
    private boolean hasImage = false;
    // What a call may still refuse is tried with this one's help, so that what is refused changes nothing.
    private final Station spare = new Station();
    private final Way way = new Way();
    private final Shortening shortening = new Shortening();
    private final Sight sight = new Sight();
    private final Odds odds = new Odds();
    private final Tape tape = new Tape();
    private final Paper[] papers = new Paper[SHEETS];

    public ArmSignals() {
        for (int i = 0; i < SHEETS; i++) {
            papers[i] = new Paper();
        }
    }

    // ---- 1 letters, messages

    public int sign(int letter, int what) {
        if (!isLetter(letter)) {
            return BAD;
        }
        switch (what) {
            case 0: return LESSER[letter];
            case 1: return GREATER[letter];
            case 2: return turnedLetter(letter);
            default: return BAD;
        }
    }

    public int letter(int p, int q) {
        return isDirection(p) && isDirection(q) ? signOf(p, q) : BAD;
    }

    public int apart(int a, int b) {
        if (!isSign(a) || !isSign(b)) {
            return BAD;
        }
        return between(LESSER[a], GREATER[a], LESSER[b], GREATER[b]);
    }

    public int say(int letter) {
        spare.become(now);
        return knownIfDone(now.addLetter(letter));
    }

    public int back() {
        spare.become(now);
        return knownIfDone(now.takeLetter());
    }

    public int keep() {
        spare.become(now);
        return knownIfDone(now.addWord());
    }

    public int lose(int k) {
        spare.become(now);
        return knownIfDone(now.removeWord(k));
    }

    public int call(int k) {
        spare.become(now);
        return knownIfDone(now.addLettersOf(k));
    }

    public int tell(int what, int v) {
        spare.become(now);
        return knownIfDone(now.setCost(what, v));
    }

    public int said(int k, int i) {
        if (i < 0 || k != MESSAGE && !now.hasWord(k)) {
            return BAD;
        }
        if (k == MESSAGE) {
            return i < now.length ? now.message[i] : NONE;
        }
        return i < now.lengths[k] ? now.letterOf(k, i) : NONE;
    }

    public int count(int what) {
        switch (what) {
            case 0: return now.length;
            case 1: return now.words;
            case 2: return now.leftCost;
            case 3: return now.rightCost;
            case 4: return now.lettersFromBehind();
            case 5: return past.known;
            default: return BAD;
        }
    }

    // ---- 2 effort, slips

    public int least(int what) {
        if (what < 0 || what > 3) {
            return BAD;
        }
        way.find(now);
        switch (what) {
            case 0: return way.leastEffort();
            case 1: return way.howMany();
            case 2: return way.leftSteps();
            default: return way.rightSteps();
        }
    }

    public int arm(int i, int arm) {
        if (i < 0 || i >= now.length || arm < 0 || arm > 1) {
            return BAD;
        }
        way.find(now);
        return arm == 0 ? way.leftAt(i + 1) : way.rightAt(i + 1);
    }

    public int brief(int what) {
        if (what < 0 || what > 1) {
            return BAD;
        }
        shortening.find(now);
        return what == 0 ? shortening.effort() : shortening.signs();
    }

    public int nearest(int what) {
        if (what < 0 || what > 2) {
            return BAD;
        }
        sight.seeMessage(now);
        sight.compare(now);
        if (sight.number == NONE) {
            return NONE;
        }
        switch (what) {
            case 0: return sight.number;
            case 1: return sight.distance;
            default: return sight.sure ? 1 : 0;
        }
    }

    public int slips(int what) {
        switch (what) {
            case 0: return 4 * now.length - slipsToLetters();
            case 1: return slipsToLetters();
            case 2: return slipsStillNearest();
            default: return BAD;
        }
    }

    public int still(int k, int c, int what) {
        if (!now.hasWord(k) || c < 0 || c > TENTHS || what < 0 || what > 1) {
            return BAD;
        }
        odds.find(now, k, c);
        return what == 0 ? odds.above : odds.below;
    }

    // ---- 3 what is done

    public int type(int letter) {
        if (letter < ' ' || letter > '~') {
            return BAD;
        }
        return tape.add(letter);
    }

    public int read() {
        spare.become(now);
        spare.forgetText();
        int fault = tape.readInto(spare);
        tape.size = 0;
        if (fault >= 0) {
            return FAULT - fault;
        }
        past.add(now);
        now.become(spare);
        return now.length;
    }

    public int drift(int n) {
        if (n < 1 || n > MOST_TURNS) {
            return BAD;
        }
        for (int i = 0; i < n; i++) {
            past.add(now);
            now.turn();
        }
        return now.length;
    }

    public int undo() {
        return past.takeLatest(now) ? past.known : NONE;
    }

    public int seed(int v) {
        if (v < 0) {
            return BAD;
        }
        int was = now.draw;
        now.draw = v;
        return was;
    }

    public int image() {
        imageNow.become(now);
        imagePast.become(past);
        hasImage = true;
        return 1;
    }

    public int restore() {
        if (!hasImage) {
            return NONE;
        }
        now.become(imageNow);
        past.become(imagePast);
        return 1;
    }

    // ---- sheets 0 .. 3: nothing (at first), or a row of a LANE: 0 bytes, 1 shorts, 2 ints, 3 longs
    // (all with a sign), of 0 to 24 items

    public int seen(int sheet, int lane, int i, int n) {
        if (n < 1 || n > LONGEST_WORD) {
            return BAD;
        }
        int refused = refusal(sheet, lane, i, 2 * n);
        if (refused < 0) {
            return refused;
        }
        if (!sight.seePaper(papers[sheet], i, n)) {
            return NOT;
        }
        sight.compare(now);
        return sight.number;
    }

    public int film(int sheet, int lane, int i) {
        int items = 2 * now.length;
        int refused = refusal(sheet, lane, i, items);
        if (refused < 0) {
            return refused;
        }
        way.find(now);
        for (int s = 0; s < now.length; s++) {
            papers[sheet].items[i + 2 * s] = way.leftAt(s + 1);
            papers[sheet].items[i + 2 * s + 1] = way.rightAt(s + 1);
        }
        return items;
    }

    public int sheet(int sheet, int lane, int n) {
        if (!isSheet(sheet) || !isLane(lane) || n > LONGEST_SHEET) {
            return BAD;
        }
        if (n < 0) {
            return SIZE;
        }
        papers[sheet].begin(lane, n);
        return n;
    }

    public int drop(int sheet) {
        if (!isSheet(sheet)) {
            return BAD;
        }
        if (!papers[sheet].held) {
            return NULL;
        }
        papers[sheet].held = false;
        return papers[sheet].size;
    }

    public int item(int sheet, int lane, int i, long v) {
        int refused = refusal(sheet, lane, i, 1);
        if (refused < 0) {
            return refused;
        }
        papers[sheet].items[i] = lowestBits(lane, v);
        return 1;
    }

    public int copy(int from, int i, int to, int j, int n) {
        if (!isSheet(from) || !isSheet(to)) {
            return BAD;
        }
        Paper source = papers[from];
        Paper target = papers[to];
        if (!source.held || !target.held) {
            return NULL;
        }
        if (source.lane != target.lane) {
            return CAST;
        }
        if (!source.has(i, n) || !target.has(j, n)) {
            return INDEX;
        }
        System.arraycopy(source.items, i, target.items, j, n);
        return n;
    }

    // ---- what the calls share

    private int knownIfDone(int answer) {
        if (answer >= 0) {
            past.add(spare);
        }
        return answer;
    }

    private int slipsToLetters() {
        int found = 0;
        for (int i = 0; i < now.length; i++) {
            int p = LESSER[now.message[i]];
            int q = GREATER[now.message[i]];
            found += letterOrNot(oneOn(p), q) + letterOrNot(oneBack(p), q);
            found += letterOrNot(p, oneOn(q)) + letterOrNot(p, oneBack(q));
        }
        return found;
    }

    private int slipsStillNearest() {
        sight.seeMessage(now);
        sight.compare(now);
        int without = sight.number;
        if (without == NONE) {
            return 0;
        }
        int found = 0;
        for (int i = 0; i < now.length; i++) {
            int p = LESSER[now.message[i]];
            int q = GREATER[now.message[i]];
            found += tellsAt(i, oneOn(p), q, without) + tellsAt(i, oneBack(p), q, without);
            found += tellsAt(i, p, oneOn(q), without) + tellsAt(i, p, oneBack(q), without);
            sight.put(i, p, q);
        }
        return found;
    }

    private int tellsAt(int i, int p, int q, int word) {
        sight.put(i, p, q);
        sight.compare(now);
        return sight.number == word && sight.sure ? 1 : 0;
    }

    private int refusal(int sheet, int lane, int i, int n) {
        if (!isSheet(sheet) || !isLane(lane)) {
            return BAD;
        }
        if (!papers[sheet].held) {
            return NULL;
        }
        if (papers[sheet].lane != lane) {
            return CAST;
        }
        return papers[sheet].has(i, n) ? 0 : INDEX;
    }

    private static boolean isLetter(int letter) {
        return letter >= 0 && letter < LETTERS;
    }

    private static boolean isSign(int sign) {
        return sign >= 0 && sign < SIGNS;
    }

    private static boolean isDirection(long p) {
        return p >= 0 && p < DIRECTIONS;
    }

    private static boolean isSheet(int sheet) {
        return sheet >= 0 && sheet < SHEETS;
    }

    private static boolean isLane(int lane) {
        return lane >= 0 && lane < LANES;
    }

    private static long lowestBits(int lane, long v) {
        switch (lane) {
            case 0: return (byte) v;
            case 1: return (short) v;
            case 2: return (int) v;
            default: return v;
        }
    }

    private static int oneOn(int p) {
        return (p + 1) % DIRECTIONS;
    }

    private static int oneBack(int p) {
        return (p + DIRECTIONS - 1) % DIRECTIONS;
    }

    private static int fromBehind(int p) {
        return (DIRECTIONS - p) % DIRECTIONS;
    }

    private static int stepsBetween(int p, int q) {
        int oneWay = p < q ? q - p : p - q;
        return oneWay <= DIRECTIONS / 2 ? oneWay : DIRECTIONS - oneWay;
    }

    private static int between(int p, int q, int r, int s) {
        return Math.min(stepsBetween(p, r) + stepsBetween(q, s), stepsBetween(p, s) + stepsBetween(q, r));
    }

    private static int signOf(int p, int q) {
        int lesser = Math.min(p, q);
        int greater = Math.max(p, q);
        for (int s = 0; s < SIGNS; s++) {
            if (LESSER[s] == lesser && GREATER[s] == greater) {
                return s;
            }
        }
        return NONE;
    }

    private static int letterOrNot(int p, int q) {
        return isLetter(signOf(p, q)) ? 1 : 0;
    }

    private static int turnedLetter(int letter) {
        int turned = signOf(fromBehind(LESSER[letter]), fromBehind(GREATER[letter]));
        return isLetter(turned) ? turned : NONE;
    }

    /** All that may be UNDONE: THE MESSAGE, the WORDS, the costs, THE DRAW. */
    private static final class Station {
        final int[] message = new int[MOST_SAID];
        int length = 0;
        final int[] letters = new int[MOST_WORDS * LONGEST_WORD];
        final int[] lengths = new int[MOST_WORDS];
        int words = 0;
        int leftCost = 1;
        int rightCost = 1;
        int draw = 1;

        Station() {
        }

        void become(Station other) {
            System.arraycopy(other.message, 0, message, 0, MOST_SAID);
            length = other.length;
            System.arraycopy(other.letters, 0, letters, 0, MOST_WORDS * LONGEST_WORD);
            System.arraycopy(other.lengths, 0, lengths, 0, MOST_WORDS);
            words = other.words;
            leftCost = other.leftCost;
            rightCost = other.rightCost;
            draw = other.draw;
        }

        void forgetText() {
            length = 0;
            words = 0;
        }

        boolean hasWord(int k) {
            return k >= 0 && k < words;
        }

        int letterOf(int k, int i) {
            return letters[k * LONGEST_WORD + i];
        }

        int addLetter(int letter) {
            if (!isLetter(letter)) {
                return BAD;
            }
            if (length >= MOST_SAID) {
                return FULL;
            }
            message[length] = letter;
            length++;
            return length;
        }

        int takeLetter() {
            if (length == 0) {
                return NONE;
            }
            length--;
            return message[length];
        }

        int addWord() {
            if (length == 0 || length > LONGEST_WORD) {
                return NOT;
            }
            if (words >= MOST_WORDS) {
                return FULL;
            }
            System.arraycopy(message, 0, letters, words * LONGEST_WORD, length);
            lengths[words] = length;
            words++;
            return words - 1;
        }

        int removeWord(int k) {
            if (!hasWord(k)) {
                return BAD;
            }
            words--;
            int behind = words - k;
            int place = k * LONGEST_WORD;
            System.arraycopy(letters, place + LONGEST_WORD, letters, place, behind * LONGEST_WORD);
            System.arraycopy(lengths, k + 1, lengths, k, behind);
            return words;
        }

        int addLettersOf(int k) {
            if (!hasWord(k)) {
                return BAD;
            }
            if (length + lengths[k] > MOST_SAID) {
                return FULL;
            }
            System.arraycopy(letters, k * LONGEST_WORD, message, length, lengths[k]);
            length += lengths[k];
            return length;
        }

        int setCost(int what, int v) {
            if (what < 0 || what > 1 || v < 1 || v > DEAREST_STEP) {
                return BAD;
            }
            int was = what == 0 ? leftCost : rightCost;
            if (was == v) {
                return NOT;
            }
            if (what == 0) {
                leftCost = v;
            } else {
                rightCost = v;
            }
            return was;
        }

        /** A LETTER that opens a WORD of a TEXT. */
        boolean openWord(int letter) {
            if (words >= MOST_WORDS) {
                return false;
            }
            lengths[words] = 0;
            words++;
            return lengthenWord(letter);
        }

        /** A LETTER more of the last WORD of a TEXT. */
        boolean lengthenWord(int letter) {
            int last = words - 1;
            if (last < 0 || lengths[last] >= LONGEST_WORD) {
                return false;
            }
            letters[last * LONGEST_WORD + lengths[last]] = letter;
            lengths[last]++;
            return true;
        }

        /** One turn of a DRIFT; what is refused has changed nothing but THE DRAW. */
        void turn() {
            draw = (draw * 1103515245 + 12345) & 0x7fffffff;
            int x = draw / 65536;
            int y = x / 8;
            switch (x % 8) {
                case 4: takeLetter(); break;
                case 5: addLettersOf(y % MOST_WORDS); break;
                case 6: setCost(0, y % DEAREST_STEP + 1); break;
                case 7: setCost(1, y % DEAREST_STEP + 1); break;
                default: addLetter(y % LETTERS); break;
            }
        }

        int lettersFromBehind() {
            int found = 0;
            for (int i = 0; i < length; i++) {
                if (turnedLetter(message[i]) != NONE) {
                    found++;
                }
            }
            return found;
        }

        /** Whether THE MESSAGE has WORD k from a place on. */
        boolean hasWordAt(int k, int place) {
            if (place + lengths[k] > length) {
                return false;
            }
            for (int i = 0; i < lengths[k]; i++) {
                if (message[place + i] != letterOf(k, i)) {
                    return false;
                }
            }
            return true;
        }

        int effortOf(int left, int right, int nextLeft, int nextRight) {
            return leftCost * stepsBetween(left, nextLeft) + rightCost * stepsBetween(right, nextRight);
        }
    }

    /** What may be UNDONE: how all was ahead of the latest deeds, in a ring. */
    private static final class Past {
        final Station[] ahead = new Station[MOST_KNOWN];
        int oldest = 0;
        int known = 0;

        Past() {
            for (int i = 0; i < MOST_KNOWN; i++) {
                ahead[i] = new Station();
            }
        }

        void become(Past other) {
            for (int i = 0; i < MOST_KNOWN; i++) {
                ahead[i].become(other.ahead[i]);
            }
            oldest = other.oldest;
            known = other.known;
        }

        void add(Station station) {
            ahead[(oldest + known) % MOST_KNOWN].become(station);
            if (known < MOST_KNOWN) {
                known++;
            } else {
                oldest = (oldest + 1) % MOST_KNOWN;
            }
        }

        boolean takeLatest(Station into) {
            if (known == 0) {
                return false;
            }
            known--;
            into.become(ahead[(oldest + known) % MOST_KNOWN]);
            return true;
        }
    }

    /**
     * THE WAY. Place 0 is the beginning, place i + 1 is SIGN i. A side is 0 if the left arm is
     * at the lesser DIRECTION, 1 if at the greater one; effort and ways are those from a place on,
     * so that the first SIGNS can be chosen first.
     */
    private static final class Way {
        final int[] lesser = new int[MOST_SAID + 1];
        final int[] greater = new int[MOST_SAID + 1];
        final int[] effort = new int[2 * (MOST_SAID + 1)];
        final int[] ways = new int[2 * (MOST_SAID + 1)];
        final int[] side = new int[MOST_SAID + 1];
        int last = 0;

        Way() {
        }

        void find(Station station) {
            last = station.length;
            for (int i = 0; i < last; i++) {
                lesser[i + 1] = LESSER[station.message[i]];
                greater[i + 1] = GREATER[station.message[i]];
            }
            weigh(station);
            choose(station);
        }

        private void weigh(Station station) {
            for (int s = 0; s < 2; s++) {
                effort[2 * last + s] = 0;
                ways[2 * last + s] = 1;
            }
            for (int place = last - 1; place >= 0; place--) {
                for (int s = 0; s < 2; s++) {
                    int byLesser = effortBy(station, place, s, 0);
                    int byGreater = effortBy(station, place, s, 1);
                    int at = 2 * place + s;
                    int next = 2 * place + 2;
                    effort[at] = Math.min(byLesser, byGreater);
                    ways[at] = (byLesser <= byGreater ? ways[next] : 0) + (byGreater <= byLesser ? ways[next + 1] : 0);
                }
            }
        }

        private void choose(Station station) {
            side[0] = 0;
            for (int place = 0; place < last; place++) {
                int byLesser = effortBy(station, place, side[place], 0);
                side[place + 1] = byLesser == effort[2 * place + side[place]] ? 0 : 1;
            }
        }

        private int effortBy(Station station, int place, int s, int nextSide) {
            int next = place + 1;
            int left = dirOf(next, nextSide);
            int right = dirOf(next, 1 - nextSide);
            return station.effortOf(dirOf(place, s), dirOf(place, 1 - s), left, right) + effort[2 * next + nextSide];
        }

        private int dirOf(int place, int s) {
            return s == 0 ? lesser[place] : greater[place];
        }

        int leastEffort() {
            return effort[0];
        }

        int howMany() {
            return ways[0];
        }

        int leftAt(int place) {
            return dirOf(place, side[place]);
        }

        int rightAt(int place) {
            return dirOf(place, 1 - side[place]);
        }

        int leftSteps() {
            int steps = 0;
            for (int place = 0; place < last; place++) {
                steps += stepsBetween(leftAt(place), leftAt(place + 1));
            }
            return steps;
        }

        int rightSteps() {
            int steps = 0;
            for (int place = 0; place < last; place++) {
                steps += stepsBetween(rightAt(place), rightAt(place + 1));
            }
            return steps;
        }
    }

    /**
     * SHORT. Ends are kept by how many LETTERS are made, which SIGN came last (the LETTER itself, or
     * that of a WORD's number) and at which side the left arm is. A price is the EFFORT times UNIT,
     * and one for each SIGN, so that the least price has the fewest SIGNS of the least EFFORT.
     */
    private static final class Shortening {
        static final int UNIT = 32;
        static final int UNREACHED = 1 << 28;
        static final int ENDS = 2 * (MOST_WORDS + 1);

        final int[] left = new int[(MOST_SAID + 1) * ENDS];
        final int[] right = new int[(MOST_SAID + 1) * ENDS];
        final int[] price = new int[(MOST_SAID + 1) * ENDS];
        final int[] callPrice = new int[2];
        int best = 0;

        Shortening() {
        }

        void find(Station station) {
            Arrays.fill(price, UNREACHED);
            left[0] = 0;
            right[0] = 0;
            price[0] = 0;
            for (int made = 0; made < station.length; made++) {
                goOnByLetter(station, made);
                goOnByWords(station, made);
            }
            best = UNREACHED;
            for (int e = 0; e < ENDS; e++) {
                best = Math.min(best, price[station.length * ENDS + e]);
            }
        }

        int effort() {
            return best / UNIT;
        }

        int signs() {
            return best % UNIT;
        }

        private void goOnByLetter(Station station, int made) {
            callPrice[0] = UNREACHED;
            callPrice[1] = UNREACHED;
            for (int e = made * ENDS; e < made * ENDS + ENDS; e++) {
                if (price[e] == UNREACHED) {
                    continue;
                }
                for (int s = 0; s < 2; s++) {
                    int letter = station.message[made];
                    reach((made + 1) * ENDS + s, letter, s, price[e] + priceOf(station, left[e], right[e], letter, s));
                    int called = price[e] + priceOf(station, left[e], right[e], CALL_SIGN, s);
                    callPrice[s] = Math.min(callPrice[s], called);
                }
            }
        }

        private void goOnByWords(Station station, int made) {
            for (int k = 0; k < station.words; k++) {
                if (!station.hasWordAt(k, made)) {
                    continue;
                }
                int end = (made + station.lengths[k]) * ENDS + 2 * (k + 1);
                for (int s = 0; s < 4; s++) {
                    int from = s / 2;
                    int to = s % 2;
                    int move = priceOf(station, dirOf(CALL_SIGN, from), dirOf(CALL_SIGN, 1 - from), k, to);
                    reach(end + to, k, to, callPrice[from] + move);
                }
            }
        }

        private void reach(int end, int sign, int side, int newPrice) {
            if (newPrice < price[end]) {
                price[end] = newPrice;
                left[end] = dirOf(sign, side);
                right[end] = dirOf(sign, 1 - side);
            }
        }

        private static int priceOf(Station station, int fromLeft, int fromRight, int sign, int side) {
            return UNIT * station.effortOf(fromLeft, fromRight, dirOf(sign, side), dirOf(sign, 1 - side)) + 1;
        }

        private static int dirOf(int sign, int side) {
            return side == 0 ? LESSER[sign] : GREATER[sign];
        }
    }

    /** A row of SIGNS as they were seen, and the WORD that is NEAREST to it. */
    private static final class Sight {
        final int[] one = new int[MOST_SAID];
        final int[] other = new int[MOST_SAID];
        int size = 0;
        int number = NONE;
        int distance = 0;
        boolean sure = false;

        Sight() {
        }

        void put(int i, int p, int q) {
            one[i] = p;
            other[i] = q;
        }

        void seeMessage(Station station) {
            size = station.length;
            for (int i = 0; i < size; i++) {
                put(i, LESSER[station.message[i]], GREATER[station.message[i]]);
            }
        }

        boolean seePaper(Paper paper, int from, int signs) {
            size = signs;
            for (int i = 0; i < signs; i++) {
                long p = paper.items[from + 2 * i];
                long q = paper.items[from + 2 * i + 1];
                if (!isDirection(p) || !isDirection(q)) {
                    return false;
                }
                put(i, (int) p, (int) q);
            }
            return true;
        }

        void compare(Station station) {
            number = NONE;
            distance = 0;
            sure = false;
            for (int k = 0; k < station.words; k++) {
                if (station.lengths[k] != size) {
                    continue;
                }
                int far = distanceTo(station, k);
                if (number == NONE || far < distance) {
                    number = k;
                    distance = far;
                    sure = true;
                } else if (far == distance) {
                    sure = false;
                }
            }
        }

        private int distanceTo(Station station, int k) {
            int far = 0;
            for (int i = 0; i < size; i++) {
                int letter = station.letterOf(k, i);
                far += between(one[i], other[i], LESSER[letter], GREATER[letter]);
            }
            return far;
        }
    }

    /** STILL: a WORD sent, any of its LETTERS with the greater DIRECTION one on. */
    private static final class Odds {
        // How far each LETTER sent, as it is and slipped, is from that of each WORD.
        final int[] plain = new int[MOST_WORDS * LONGEST_WORD];
        final int[] slipped = new int[MOST_WORDS * LONGEST_WORD];
        // By how many LETTERS slip: in how many cases the WORD is still told.
        final int[] told = new int[LONGEST_WORD + 1];
        int above = 0;
        int below = 1;

        Odds() {
        }

        void find(Station station, int k, int c) {
            measure(station, k);
            countTold(station, k);
            int length = station.lengths[k];
            above = 0;
            for (int slips = 0; slips <= length; slips++) {
                above += told[slips] * power(c, slips) * power(TENTHS - c, length - slips);
            }
            below = power(TENTHS, length);
            reduceBy(2, length);
            reduceBy(5, length);
        }

        private void measure(Station station, int k) {
            for (int i = 0; i < station.lengths[k]; i++) {
                int p = LESSER[station.letterOf(k, i)];
                int q = GREATER[station.letterOf(k, i)];
                for (int w = 0; w < station.words; w++) {
                    if (station.lengths[w] == station.lengths[k]) {
                        int letter = station.letterOf(w, i);
                        plain[w * LONGEST_WORD + i] = between(p, q, LESSER[letter], GREATER[letter]);
                        slipped[w * LONGEST_WORD + i] = between(p, oneOn(q), LESSER[letter], GREATER[letter]);
                    }
                }
            }
        }

        private void countTold(Station station, int k) {
            Arrays.fill(told, 0);
            for (int slips = 0; slips < 1 << station.lengths[k]; slips++) {
                if (isTold(station, k, slips)) {
                    told[Integer.bitCount(slips)]++;
                }
            }
        }

        private boolean isTold(Station station, int k, int slips) {
            int length = station.lengths[k];
            int own = distanceOf(k, length, slips);
            for (int w = 0; w < station.words; w++) {
                if (w != k && station.lengths[w] == length && distanceOf(w, length, slips) <= own) {
                    return false;
                }
            }
            return true;
        }

        private int distanceOf(int w, int length, int slips) {
            int far = 0;
            for (int i = 0; i < length; i++) {
                int at = w * LONGEST_WORD + i;
                far += (slips >> i & 1) == 0 ? plain[at] : slipped[at];
            }
            return far;
        }

        // Below stands a power of ten: it has no prime but 2 and 5, each as often as the WORD has LETTERS.
        private void reduceBy(int prime, int times) {
            for (int i = 0; i < times && above % prime == 0; i++) {
                above /= prime;
                below /= prime;
            }
        }

        private static int power(int base, int times) {
            int product = 1;
            for (int i = 0; i < times; i++) {
                product *= base;
            }
            return product;
        }
    }

    /** THE TAPE, and how it is read as a TEXT. */
    private static final class Tape {
        static final int AT_START = 0, WORD_DUE = 1, IN_WORD = 2, IN_MESSAGE = 3, FAULTY = 4;

        final int[] typed = new int[MOST_TYPED];
        int size = 0;

        Tape() {
        }

        int add(int letter) {
            if (size >= MOST_TYPED) {
                return FULL;
            }
            typed[size] = letter;
            size++;
            return size;
        }

        /** The place of the FAULT, below 0 if there is none. */
        int readInto(Station text) {
            int where = AT_START;
            for (int i = 0; i < size; i++) {
                if (typed[i] != ' ') {
                    where = behind(where, typed[i], text);
                }
                if (where == FAULTY) {
                    return i;
                }
            }
            return where == IN_MESSAGE ? -1 : size;
        }

        private static int behind(int where, int typed, Station text) {
            if (typed >= 'a' && typed <= 'z') {
                return behindLetter(where, typed - 'a', text);
            }
            if (typed == ',') {
                return where == IN_WORD && text.words < MOST_WORDS ? WORD_DUE : FAULTY;
            }
            if (typed == ':') {
                return where == AT_START || where == IN_WORD ? IN_MESSAGE : FAULTY;
            }
            return FAULTY;
        }

        private static int behindLetter(int where, int letter, Station text) {
            if (where == IN_MESSAGE) {
                return text.addLetter(letter) >= 0 ? IN_MESSAGE : FAULTY;
            }
            boolean taken = where == IN_WORD ? text.lengthenWord(letter) : text.openWord(letter);
            return taken ? IN_WORD : FAULTY;
        }
    }

    /** A SHEET: nothing, or a row of a LANE, whose items never go beyond that LANE's bits. */
    private static final class Paper {
        boolean held = false;
        int lane = 0;
        int size = 0;
        final long[] items = new long[LONGEST_SHEET];

        Paper() {
        }

        void begin(int newLane, int newSize) {
            held = true;
            lane = newLane;
            size = newSize;
            Arrays.fill(items, 0L);
        }

        boolean has(int i, int n) {
            return n >= 0 && i >= 0 && i <= size && n <= size - i;
        }
    }
}
