/**
 * Keys to all scripts, as ../shared/DOC.md tells.
 *
 * The public methods look at what they are given, in the order in which the document refuses; the
 * classes inside do the work. All rows are made with the object and used again: no call makes any.
 */
public final class KeyDesk {
    public static final int UNKNOWN = -1, OUTSIDE = -2, STATE = -3, FULL = -4, NO = -5, NONE = -6;
    public static final int LOST = -1000;

    /** A refusal of share is told beyond all sums. */
    private static final int LOST_SUM = -1000000;
    /** In place of an index: there is none. */
    private static final int ABSENT = -1;
    /** More than any sum, cost or price can be. */
    private static final int FAR = 1000000000;

    private static final int KEYS = 12, KEYS_IN_A_ROW = 4, LETTERS = 60, TONGUES = 3, ALL_TONGUES = 7;
    private static final int PAD_KEYS = 16, PAD_LETTERS = 3, PAD_WORDS = 5;
    private static final int RULES = 24, RULE_KEYS = 4, JOINS = 12, STROKES = 40, RAW = 99;
    private static final int WORDS = 60, WORD_KEYS = 8, SIGNS = 999, COUNTS = 100, GREATEST_PRICE = 60;
    private static final int BESIDE = 0, TWICE = 1, LEFT = 2, ORDER = 3, WRONG = 4, SWITCH = 5;
    private static final int PIECES = 4, PIECE_KEYS = 10, PAIRS = 40;
    private static final int HANDS = 4, LEARNINGS = 60, DAYS = 3000, WHOLE = 1000, GIFT = 5000;
    private static final int SYMBOLS = 7, WAY_SYMBOLS = 5, WAY_LAYOUTS = 120, WAY_EXCHANGES = 10;
    private static final int EFFORTS = 20, FINGERS = 4, LOADS = 99, PAIR_LOADS = 50;

    private final Row padKeys;
    private final Row padLetters;
    private final Tongue[] tongues;
    private final Line line;
    private final Words words;
    private final Slips slips;
    private final Guesses guesses;
    private final Parting parting;
    private final Choice choice;
    private final Hands hands;
    private final Layouts layouts;
    private final Ways ways;

    public KeyDesk() {
        padKeys = new Row(PAD_KEYS);
        padLetters = new Row(PAD_LETTERS);
        tongues = new Tongue[TONGUES];
        for (int t = 0; t < TONGUES; t++) {
            tongues[t] = new Tongue();
        }
        line = new Line();
        words = new Words();
        slips = new Slips();
        guesses = new Guesses();
        parting = new Parting(words, slips);
        choice = new Choice(words);
        hands = new Hands();
        layouts = new Layouts();
        ways = new Ways(layouts);
    }

    // ---- 1 letters

    public int key(int k) {
        if (!isKey(k)) {
            return OUTSIDE;
        }
        if (padKeys.isFull()) {
            return FULL;
        }
        padKeys.add(k);
        return padKeys.size();
    }

    public int letter(int l) {
        if (!isLetter(l)) {
            return OUTSIDE;
        }
        if (padLetters.isFull()) {
            return FULL;
        }
        padLetters.add(l);
        return padLetters.size();
    }

    public int wipe(int which) {
        switch (which) {
            case 0:
                return padKeys.clear();
            case 1:
                return padLetters.clear();
            case 2:
                return choice.clearPad();
            default:
                return OUTSIDE;
        }
    }

    public int rule(int tongue) {
        if (!isTongue(tongue)) {
            return UNKNOWN;
        }
        if (tongues[tongue].isFullOfRules()) {
            return FULL;
        }
        if (padKeys.isEmpty() || padKeys.size() > RULE_KEYS || padLetters.isEmpty()) {
            return NO;
        }
        int number = tongues[tongue].addRule(padKeys, padLetters);
        padKeys.clear();
        padLetters.clear();
        return number;
    }

    public int join(int tongue, int a, int b, int c) {
        if (!isTongue(tongue)) {
            return UNKNOWN;
        }
        if (!isLetter(a) || !isLetter(b) || !isLetter(c)) {
            return OUTSIDE;
        }
        if (tongues[tongue].isFullOfJoins()) {
            return FULL;
        }
        return tongues[tongue].addJoin(a, b, c);
    }

    public int own(int tongue, int l, boolean is) {
        if (!isTongue(tongue)) {
            return UNKNOWN;
        }
        if (!isLetter(l)) {
            return OUTSIDE;
        }
        return tongues[tongue].setLetter(l, is) ? 1 : 0;
    }

    public int quarrel(int tongue, int i) {
        return isTongue(tongue) ? tongues[tongue].quarrelAt(i) : UNKNOWN;
    }

    public int idle(int tongue, int what) {
        if (!isTongue(tongue)) {
            return UNKNOWN;
        }
        switch (what) {
            case 0:
                return tongues[tongue].idleRules();
            case 1:
                return tongues[tongue].unusedKeys();
            default:
                return OUTSIDE;
        }
    }

    public int missing(int tongue, int i) {
        return isTongue(tongue) ? tongues[tongue].missingAt(i) : UNKNOWN;
    }

    public int speak(int tongue) {
        return isTongue(tongue) ? line.setTongue(tongue) : UNKNOWN;
    }

    public int strike(int i, int k) {
        if (!within(i, 0, line.strokes().size()) || !isKey(k)) {
            return OUTSIDE;
        }
        if (line.strokes().isFull()) {
            return FULL;
        }
        line.strokes().insert(i, k);
        return line.strokes().size();
    }

    public int change(int i, int k) {
        return line.strokes().has(i) && isKey(k) ? line.strokes().replace(i, k) : OUTSIDE;
    }

    public int back(int i) {
        return line.strokes().has(i) ? line.strokes().remove(i) : OUTSIDE;
    }

    public int stands(int i) {
        if (i < -1) {
            return LOST + OUTSIDE;
        }
        line.write(tongueOfLine());
        if (i == -1) {
            return line.signs().size();
        }
        return line.signs().has(i) ? line.signs().at(i) : LOST + NONE;
    }

    public int piece(int i) {
        line.cut(tongueOfLine());
        return line.pieceAt(i);
    }

    public int could() {
        return line.onward(tongueOfLine());
    }

    // ---- 2 words

    public int word(int tongue, int sign, int count) {
        if (!isTongue(tongue)) {
            return UNKNOWN;
        }
        if (!within(sign, 1, SIGNS) || !within(count, 1, COUNTS)) {
            return OUTSIDE;
        }
        if (words.isFull()) {
            return FULL;
        }
        if (padKeys.isEmpty() || padKeys.size() > WORD_KEYS) {
            return NO;
        }
        int number = words.addWord(tongue, sign, count, padKeys);
        padKeys.clear();
        return number;
    }

    public int ofWord(int word, int what) {
        if (!words.has(word)) {
            return UNKNOWN;
        }
        switch (what) {
            case 0:
                return words.tongueOf(word);
            case 1:
                return words.signOf(word);
            case 2:
                return words.countOf(word);
            case 3:
                return words.keysOf(word).size();
            default:
                break;
        }
        if (what < 10) {
            return OUTSIDE;
        }
        return words.keysOf(word).has(what - 10) ? words.keysOf(word).at(what - 10) : NONE;
    }

    public int count(int word, int n) {
        if (!words.has(word)) {
            return UNKNOWN;
        }
        return within(n, 1, COUNTS) ? words.setCount(word, n) : OUTSIDE;
    }

    public int price(int which, int v) {
        if (!within(which, BESIDE, SWITCH) || !within(v, which == SWITCH ? 0 : 1, 20)) {
            return OUTSIDE;
        }
        return slips.setPrice(which, v);
    }

    public int slip(int word) {
        if (!words.has(word)) {
            return UNKNOWN;
        }
        return padKeys.isEmpty() ? STATE : slips.priceOf(padKeys, words.keysOf(word));
    }

    public int guess(int tongues, int p, int i) {
        if (!within(tongues, 1, ALL_TONGUES) || !within(p, 0, GREATEST_PRICE)) {
            return OUTSIDE;
        }
        if (padKeys.isEmpty()) {
            return STATE;
        }
        gather(tongues, p, ABSENT, 0);
        return guesses.guessAt(i);
    }

    public int part(int tongues, int i) {
        int refusal = partPad(tongues);
        if (refusal != 0) {
            return refusal;
        }
        switch (i) {
            case -1:
                return parting.sum();
            case -2:
                return parting.words().size();
            default:
                return parting.words().has(i) ? parting.words().at(i) : NONE;
        }
    }

    public int pieceOf(int tongues, int i) {
        int refusal = partPad(tongues);
        if (refusal != 0) {
            return refusal;
        }
        return parting.lengths().has(i) ? parting.lengths().at(i) : NONE;
    }

    // ---- 3 around

    public int both(int first, int second, int n) {
        if (!words.has(first) || !words.has(second)) {
            return UNKNOWN;
        }
        if (!within(n, 0, COUNTS)) {
            return OUTSIDE;
        }
        if (n > 0 && choice.together(first, second) == 0 && choice.pairs() >= PAIRS) {
            return FULL;
        }
        return choice.setTogether(first, second, n);
    }

    public int say(int word, boolean fixed) {
        if (!words.has(word)) {
            return UNKNOWN;
        }
        return choice.isPadFull() ? FULL : choice.addToPad(word, fixed);
    }

    public int chosen(int i) {
        choice.choose();
        return choice.chosenWords().has(i) ? choice.chosenWords().at(i) : NONE;
    }

    public long product() {
        return choice.choose();
    }

    // ---- 4 hands

    public int learn(int hand, int word, int day) {
        if (!isHand(hand) || !words.has(word)) {
            return UNKNOWN;
        }
        if (!isDay(day)) {
            return OUTSIDE;
        }
        if (hands.isFull()) {
            return FULL;
        }
        return day < hands.latestDay(hand) ? NO : hands.addLearning(hand, word, day);
    }

    public int worth(int hand, int word, int day) {
        if (!isHand(hand) || !words.has(word)) {
            return UNKNOWN;
        }
        return isDay(day) ? hands.worthOf(hand, word, day) : OUTSIDE;
    }

    public int forget(int hand, int word) {
        if (!isHand(hand) || word != ABSENT && !words.has(word)) {
            return UNKNOWN;
        }
        return hands.dropLearnings(hand, word);
    }

    public int fade(int v) {
        return within(v, 0, WHOLE) ? hands.setFade(v) : OUTSIDE;
    }

    public int mine(int hand, int day, int tongues, int p, int i) {
        if (!isHand(hand)) {
            return UNKNOWN;
        }
        if (!isDay(day) || !within(tongues, 1, ALL_TONGUES) || !within(p, 0, GREATEST_PRICE)) {
            return OUTSIDE;
        }
        if (padKeys.isEmpty()) {
            return STATE;
        }
        gather(tongues, p, hand, day);
        return guesses.guessAt(i);
    }

    public int budget(int hand, int v) {
        if (!isHand(hand)) {
            return UNKNOWN;
        }
        return within(v, 0, 1000) ? hands.setBudget(hand, v) : OUTSIDE;
    }

    public int seed(int x) {
        return within(x, 1, 1000000) ? hands.setSeed(x) : OUTSIDE;
    }

    public int share(int word, int e, int day) {
        if (!words.has(word)) {
            return LOST_SUM + UNKNOWN;
        }
        if (!within(e, 1, 100) || !isDay(day)) {
            return LOST_SUM + OUTSIDE;
        }
        return hands.givers(e) < 2 ? LOST_SUM + NO : hands.sumWithLot(word, e, day);
    }

    // ---- 5 layouts

    public int symbols(int k) {
        return within(k, 2, SYMBOLS) ? layouts.startAnew(k) : OUTSIDE;
    }

    public int set(int what, int i, int v) {
        if (!layouts.has(i)) {
            return UNKNOWN;
        }
        switch (what) {
            case 0:
                return within(v, 0, EFFORTS) ? layouts.setEffort(i, v) : OUTSIDE;
            case 1:
                return within(v, 0, FINGERS) ? layouts.setFinger(i, v) : OUTSIDE;
            case 2:
                return within(v, 0, LOADS) ? layouts.setLoad(i, v) : OUTSIDE;
            default:
                return OUTSIDE;
        }
    }

    public int pair(int a, int b, int v) {
        if (!layouts.has(a) || !layouts.has(b)) {
            return UNKNOWN;
        }
        return within(v, 0, PAIR_LOADS) ? layouts.setPair(a, b, v) : OUTSIDE;
    }

    public int same(int v) {
        return within(v, 0, 20) ? layouts.setSame(v) : OUTSIDE;
    }

    public int cost(int layout) {
        return layouts.read(layout) ? layouts.totalCost() : OUTSIDE;
    }

    public int best() {
        return layouts.leastCostly();
    }

    public int bound() {
        return layouts.lowerBound();
    }

    public int better(int layout, int what) {
        if (!within(what, 0, 1) || !layouts.read(layout)) {
            return OUTSIDE;
        }
        int exchanges = layouts.improve();
        return what == 0 ? layouts.digits() : exchanges;
    }

    public int way(int from, int to, int i) {
        if (!layouts.read(from) || !layouts.read(to)) {
            return OUTSIDE;
        }
        if (layouts.size() > WAY_SYMBOLS) {
            return STATE;
        }
        ways.find(from, to);
        switch (i) {
            case -1:
                return ways.peak();
            case -2:
                return ways.path().size() - 1;
            default:
                return ways.path().has(i) ? ways.path().at(i) : NONE;
        }
    }

    public int told(int what) {
        switch (what) {
            case 0:
                return padKeys.size();
            case 1:
                return padLetters.size();
            case 2:
                return choice.padSize();
            case 3:
                return line.tongue();
            case 4:
                return line.strokes().size();
            case 5:
                return words.size();
            case 6:
                return choice.pairs();
            case 7:
                return hands.learnings();
            case 8:
                return layouts.size();
            default:
                return toldOfOne(what);
        }
    }

    private int toldOfOne(int what) {
        if (isTongue(what - 10)) {
            return tongues[what - 10].rules();
        }
        if (isTongue(what - 20)) {
            return tongues[what - 20].joins();
        }
        return isHand(what - 30) ? hands.budgetOf(what - 30) : OUTSIDE;
    }

    private static boolean within(int v, int least, int most) {
        return v >= least && v <= most;
    }

    private static boolean isKey(int k) {
        return within(k, 0, KEYS - 1);
    }

    private static boolean isLetter(int l) {
        return within(l, 1, LETTERS);
    }

    private static boolean isTongue(int t) {
        return within(t, 0, TONGUES - 1);
    }

    private static boolean isHand(int h) {
        return within(h, 0, HANDS - 1);
    }

    private static boolean isDay(int d) {
        return within(d, 0, DAYS);
    }

    private static boolean hasBit(int bits, int i) {
        return (bits >> i & 1) == 1;
    }

    private Tongue tongueOfLine() {
        return tongues[line.tongue()];
    }

    /** Lists the GUESSES; for a HAND its OWN ones. */
    private void gather(int inTongues, int p, int hand, int day) {
        guesses.clear();
        for (int w = 0; w < words.size(); w++) {
            if (hasBit(inTongues, words.tongueOf(w))) {
                int price = slips.priceOf(padKeys, words.keysOf(w));
                if (price <= p) {
                    guesses.insert(w, price, WHOLE * words.countOf(w) + hands.worthOf(hand, w, day));
                }
            }
        }
    }

    /** Parts the PAD: 0, or the refusal. */
    private int partPad(int inTongues) {
        if (!within(inTongues, 1, ALL_TONGUES)) {
            return OUTSIDE;
        }
        if (padKeys.isEmpty()) {
            return STATE;
        }
        return parting.find(padKeys, inTongues) ? 0 : NO;
    }

    /** A row of numbers in a room that is made once; indices beside it are looked at, never used. */
    private static final class Row {
        private final int[] items;
        private int size;

        Row(int room) {
            items = new int[Math.max(room, 0)];
        }

        int size() {
            return size;
        }

        boolean isEmpty() {
            return size == 0;
        }

        boolean isFull() {
            return size >= items.length;
        }

        boolean has(int i) {
            return i >= 0 && i < size;
        }

        int at(int i) {
            return i >= 0 && i < size ? items[i] : ABSENT;
        }

        void add(int v) {
            insert(size, v);
        }

        void insert(int i, int v) {
            if (isFull() || i < 0 || i > size) {
                return;
            }
            for (int j = size; j > i; j--) {
                items[j] = items[j - 1];
            }
            items[i] = v;
            size++;
        }

        /** Puts a number at a place: which it was. */
        int replace(int i, int v) {
            int old = at(i);
            if (has(i)) {
                items[i] = v;
            }
            return old;
        }

        /** Takes a number out: which it was. */
        int remove(int i) {
            int old = at(i);
            if (has(i)) {
                size--;
                for (int j = i; j < size; j++) {
                    items[j] = items[j + 1];
                }
            }
            return old;
        }

        /** Empties the row: how many there were. */
        int clear() {
            int old = size;
            size = 0;
            return old;
        }

        void copy(Row other) {
            clear();
            for (int i = 0; i < other.size; i++) {
                add(other.items[i]);
            }
        }

        boolean isLike(Row other) {
            return size == other.size && agrees(other, 0, size);
        }

        /** Whether the first n numbers are those of another row from a place on. */
        boolean agrees(Row other, int from, int n) {
            if (n > size || from < 0 || n > other.size - from) {
                return false;
            }
            for (int i = 0; i < n; i++) {
                if (items[i] != other.items[from + i]) {
                    return false;
                }
            }
            return true;
        }
    }

    /** RULES, JOINS and LETTERS of a TONGUE. */
    private static final class Tongue {
        private final Row[] keysOfRules = new Row[RULES];
        private final Row[] lettersOfRules = new Row[RULES];
        private int rules;
        private final Row firsts = new Row(JOINS);
        private final Row seconds = new Row(JOINS);
        private final Row joints = new Row(JOINS);
        private final boolean[] letters = new boolean[LETTERS + 1];
        private final boolean[] made = new boolean[LETTERS + 1];

        Tongue() {
            for (int r = 0; r < RULES; r++) {
                keysOfRules[r] = new Row(RULE_KEYS);
                lettersOfRules[r] = new Row(PAD_LETTERS);
            }
        }

        int rules() {
            return rules;
        }

        int joins() {
            return joints.size();
        }

        boolean isFullOfRules() {
            return rules >= RULES;
        }

        boolean isFullOfJoins() {
            return joints.isFull();
        }

        Row keysOfRule(int r) {
            return keysOfRules[r];
        }

        Row lettersOfRule(int r) {
            return lettersOfRules[r];
        }

        int addRule(Row keys, Row lettersMade) {
            if (isFullOfRules()) {
                return FULL;
            }
            keysOfRules[rules].copy(keys);
            lettersOfRules[rules].copy(lettersMade);
            rules++;
            return rules - 1;
        }

        int addJoin(int a, int b, int c) {
            firsts.add(a);
            seconds.add(b);
            joints.add(c);
            return joints.size();
        }

        boolean setLetter(int l, boolean is) {
            boolean was = letters[l];
            letters[l] = is;
            return was;
        }

        /** What the first JOIN of two signs makes of them; 0 if none has both. */
        int joined(int a, int b) {
            for (int j = 0; j < joints.size(); j++) {
                if (firsts.at(j) == a && seconds.at(j) == b) {
                    return joints.at(j);
                }
            }
            return 0;
        }

        /** The RULE with the most KEYS that are the strokes from a place on. */
        int longestRule(Row strokes, int from) {
            int longest = ABSENT;
            int most = 0;
            for (int r = 0; r < rules; r++) {
                Row keys = keysOfRules[r];
                if (keys.size() > most && keys.agrees(strokes, from, keys.size())) {
                    most = keys.size();
                    longest = r;
                }
            }
            return longest;
        }

        /** KEYS, as bits, that lead from the strokes from a place on further into a RULE. */
        int keysBehind(Row strokes, int from) {
            int struck = strokes.size() - from;
            int bits = 0;
            for (int r = 0; r < rules; r++) {
                Row keys = keysOfRules[r];
                if (keys.has(struck) && keys.agrees(strokes, from, struck)) {
                    bits |= 1 << keys.at(struck);
                }
            }
            return bits;
        }

        int quarrelAt(int i) {
            int found = 0;
            for (int a = 0; a < rules; a++) {
                for (int b = a + 1; b < rules; b++) {
                    if (keysOfRules[a].isLike(keysOfRules[b]) && !lettersOfRules[a].isLike(lettersOfRules[b])) {
                        if (found == i) {
                            return 100 * a + b;
                        }
                        found++;
                    }
                }
            }
            return i == -1 ? found : NONE;
        }

        int idleRules() {
            int bits = 0;
            for (int r = 0; r < rules; r++) {
                if (isIdle(r)) {
                    bits |= 1 << r;
                }
            }
            return bits;
        }

        private boolean isIdle(int r) {
            for (int ahead = 0; ahead < r; ahead++) {
                if (keysOfRules[ahead].isLike(keysOfRules[r])) {
                    return true;
                }
            }
            return false;
        }

        int unusedKeys() {
            int bits = (1 << KEYS) - 1;
            for (int r = 0; r < rules; r++) {
                for (int i = 0; i < keysOfRules[r].size(); i++) {
                    bits &= ~(1 << keysOfRules[r].at(i));
                }
            }
            return bits;
        }

        int missingAt(int i) {
            markMade();
            int found = 0;
            for (int l = 1; l <= LETTERS; l++) {
                if (letters[l] && !made[l]) {
                    if (found == i) {
                        return l;
                    }
                    found++;
                }
            }
            return i == -1 ? found : NONE;
        }

        private void markMade() {
            for (int l = 0; l <= LETTERS; l++) {
                made[l] = false;
            }
            for (int r = 0; r < rules; r++) {
                if (!isIdle(r)) {
                    markLettersOf(r);
                }
            }
            // A JOIN may need what one told behind it makes; as many rounds as JOINS settle any chain.
            for (int round = 0; round < joints.size(); round++) {
                markJoints();
            }
        }

        private void markLettersOf(int r) {
            for (int i = 0; i < lettersOfRules[r].size(); i++) {
                mark(lettersOfRules[r].at(i));
            }
        }

        private void markJoints() {
            for (int j = 0; j < joints.size(); j++) {
                if (isMade(firsts.at(j)) && isMade(seconds.at(j))) {
                    mark(joints.at(j));
                }
            }
        }

        private void mark(int l) {
            if (isLetter(l)) {
                made[l] = true;
            }
        }

        private boolean isMade(int l) {
            return isLetter(l) && made[l];
        }
    }

    /** THE LINE: its strokes, and its PIECES and signs as they were last worked out. */
    private static final class Line {
        private final Row strokes = new Row(STROKES);
        private final Row rulesOfPieces = new Row(STROKES);
        private final Row starts = new Row(STROKES);
        private final Row signs = new Row(STROKES * PAD_LETTERS);
        private int tongue;

        Row strokes() {
            return strokes;
        }

        Row signs() {
            return signs;
        }

        int tongue() {
            return tongue;
        }

        int setTongue(int t) {
            int old = tongue;
            tongue = t;
            return old;
        }

        /** Cuts the strokes into PIECES. */
        void cut(Tongue in) {
            rulesOfPieces.clear();
            starts.clear();
            int from = 0;
            while (from < strokes.size()) {
                int r = in.longestRule(strokes, from);
                rulesOfPieces.add(r == ABSENT ? RAW : r);
                starts.add(from);
                from += r == ABSENT ? 1 : Math.max(1, in.keysOfRule(r).size());
            }
        }

        int pieceAt(int i) {
            if (i == -1) {
                return starts.size();
            }
            return starts.has(i) ? 100 * rulesOfPieces.at(i) + starts.at(i) : NONE;
        }

        int onward(Tongue in) {
            cut(in);
            int last = starts.size() - 1;
            return in.keysBehind(strokes, starts.has(last) ? starts.at(last) : 0);
        }

        /** Lets the signs of all PIECES come one by one. */
        void write(Tongue in) {
            cut(in);
            signs.clear();
            for (int p = 0; p < starts.size(); p++) {
                int r = rulesOfPieces.at(p);
                if (r == RAW) {
                    signs.add(-1 - strokes.at(starts.at(p)));
                } else {
                    Row letters = in.lettersOfRule(r);
                    for (int i = 0; i < letters.size(); i++) {
                        arrive(in, letters.at(i));
                    }
                }
            }
        }

        private void arrive(Tongue in, int letter) {
            int sign = letter;
            int joint = jointWithLast(in, sign);
            while (joint != 0 && !signs.isEmpty()) {
                signs.remove(signs.size() - 1);
                sign = joint;
                joint = jointWithLast(in, sign);
            }
            signs.add(sign);
        }

        private int jointWithLast(Tongue in, int sign) {
            return signs.isEmpty() ? 0 : in.joined(signs.at(signs.size() - 1), sign);
        }
    }

    /** The WORDS of all TONGUES. */
    private static final class Words {
        private final Row tonguesOfWords = new Row(WORDS);
        private final Row signsOfWords = new Row(WORDS);
        private final Row countsOfWords = new Row(WORDS);
        private final Row[] keysOfWords = new Row[WORDS];

        Words() {
            for (int w = 0; w < WORDS; w++) {
                keysOfWords[w] = new Row(WORD_KEYS);
            }
        }

        int size() {
            return tonguesOfWords.size();
        }

        boolean isFull() {
            return tonguesOfWords.isFull();
        }

        boolean has(int w) {
            return tonguesOfWords.has(w);
        }

        int tongueOf(int w) {
            return tonguesOfWords.at(w);
        }

        int signOf(int w) {
            return signsOfWords.at(w);
        }

        int countOf(int w) {
            return countsOfWords.at(w);
        }

        Row keysOf(int w) {
            return keysOfWords[w];
        }

        int setCount(int w, int n) {
            return countsOfWords.replace(w, n);
        }

        int addWord(int tongue, int sign, int count, Row keys) {
            if (isFull()) {
                return FULL;
            }
            keysOfWords[size()].copy(keys);
            tonguesOfWords.add(tongue);
            signsOfWords.add(sign);
            countsOfWords.add(count);
            return size() - 1;
        }

        boolean soundAlike(int a, int b) {
            return tongueOf(a) == tongueOf(b) && keysOfWords[a].isLike(keysOfWords[b]);
        }
    }

    /** PRICES of slips, and what struck KEYS cost for a WORD. */
    private static final class Slips {
        private final int[] prices = {3, 3, 4, 3, 6, 5};
        /** By struck KEYS and KEYS of the WORD, from the first ones on: the least sum for so many of both. */
        private final int[][] least = new int[PAD_KEYS + 1][WORD_KEYS + 1];

        int setPrice(int which, int v) {
            int old = prices[which];
            prices[which] = v;
            return old;
        }

        int switchPrice() {
            return prices[SWITCH];
        }

        int priceOf(Row struck, Row word) {
            workOut(struck, 0, struck.size(), word);
            return leastFor(struck.size(), word);
        }

        /** The PRICE of the first n struck KEYS of those last worked out, for the same WORD. */
        int leastFor(int n, Row word) {
            return least[n][word.size()];
        }

        /** Works out the PRICES of the first n, and fewer, of the struck KEYS from a place on. */
        void workOut(Row struck, int from, int n, Row word) {
            for (int i = 0; i <= n; i++) {
                for (int j = 0; j <= word.size(); j++) {
                    least[i][j] = leastSum(struck, from, i, word, j);
                }
            }
        }

        private int leastSum(Row struck, int from, int i, Row word, int j) {
            if (i == 0) {
                return j * prices[LEFT];
            }
            int last = struck.at(from + i - 1);
            // What was struck ahead of the place belongs to another piece.
            int ahead = i > 1 ? struck.at(from + i - 2) : ABSENT;
            int sum = least[i - 1][j] + prices[last == ahead ? TWICE : WRONG];
            if (j > 0) {
                sum = Math.min(sum, least[i][j - 1] + prices[LEFT]);
                sum = Math.min(sum, least[i - 1][j - 1] + priceOfOne(last, word.at(j - 1)));
            }
            if (i > 1 && j > 1 && last != ahead && last == word.at(j - 2) && ahead == word.at(j - 1)) {
                sum = Math.min(sum, least[i - 2][j - 2] + prices[ORDER]);
            }
            return sum;
        }

        private int priceOfOne(int struck, int due) {
            if (struck == due) {
                return 0;
            }
            int rows = Math.abs(struck / KEYS_IN_A_ROW - due / KEYS_IN_A_ROW);
            int columns = Math.abs(struck % KEYS_IN_A_ROW - due % KEYS_IN_A_ROW);
            return prices[rows <= 1 && columns <= 1 ? BESIDE : WRONG];
        }
    }

    /** GUESSES, in their order. */
    private static final class Guesses {
        private final Row found = new Row(WORDS);
        private final Row prices = new Row(WORDS);
        private final Row weights = new Row(WORDS);

        void clear() {
            found.clear();
            prices.clear();
            weights.clear();
        }

        /** WORDS come by their numbers, so that one stays behind those that are like it. */
        void insert(int w, int price, int weight) {
            int place = found.size();
            while (place > 0 && goesAhead(price, weight, place - 1)) {
                place--;
            }
            found.insert(place, w);
            prices.insert(place, price);
            weights.insert(place, weight);
        }

        private boolean goesAhead(int price, int weight, int of) {
            return price < prices.at(of) || price == prices.at(of) && weight > weights.at(of);
        }

        int guessAt(int i) {
            if (i == -1) {
                return found.size();
            }
            return found.has(i) ? found.at(i) : NONE;
        }
    }

    /**
     * KEYS PARTED into WORDS, worked out from the end: for each place, how many WORDS follow, and the TONGUE
     * of the WORD ahead, the best that can follow. The best of a whole has the best behind its first WORD.
     */
    private static final class Parting {
        /** In place of the TONGUE of the WORD ahead: there is none. */
        private static final int FIRST = TONGUES;
        private static final int CASES = (PAD_KEYS + 1) * (PIECES + 1) * (TONGUES + 1);

        private final Words words;
        private final Slips slips;
        private final int[] sums = new int[CASES];
        private final int[] products = new int[CASES];
        private final int[] firstWords = new int[CASES];
        private final int[] firstLengths = new int[CASES];
        private final Row foundWords = new Row(PIECES);
        private final Row foundLengths = new Row(PIECES);
        private int foundSum;

        Parting(Words words, Slips slips) {
            this.words = words;
            this.slips = slips;
        }

        int sum() {
            return foundSum;
        }

        Row words() {
            return foundWords;
        }

        Row lengths() {
            return foundLengths;
        }

        /** Parts the KEYS: whether it can be. */
        boolean find(Row keys, int inTongues) {
            start(keys.size());
            for (int from = keys.size() - 1; from >= 0; from--) {
                for (int w = 0; w < words.size(); w++) {
                    if (hasBit(inTongues, words.tongueOf(w))) {
                        tryWord(keys, from, w);
                    }
                }
            }
            int pieces = bestNumberOfPieces();
            follow(pieces);
            return pieces > 0;
        }

        private static int caseOf(int from, int pieces, int tongueAhead) {
            return (from * (PIECES + 1) + pieces) * (TONGUES + 1) + tongueAhead;
        }

        private void start(int end) {
            for (int c = 0; c < CASES; c++) {
                sums[c] = FAR;
                products[c] = 1;
            }
            for (int t = 0; t < TONGUES; t++) {
                sums[caseOf(end, 0, t)] = 0;
            }
        }

        private void tryWord(Row keys, int from, int w) {
            int longest = Math.min(PIECE_KEYS, keys.size() - from);
            slips.workOut(keys, from, longest, words.keysOf(w));
            for (int length = 1; length <= longest; length++) {
                int price = slips.leastFor(length, words.keysOf(w));
                for (int pieces = 1; pieces <= PIECES; pieces++) {
                    tryPiece(from, pieces, w, length, price);
                }
            }
        }

        private void tryPiece(int from, int pieces, int w, int length, int price) {
            int t = words.tongueOf(w);
            int rest = caseOf(from + length, pieces - 1, t);
            if (sums[rest] == FAR) {
                return;
            }
            int sum = price + sums[rest];
            int product = words.countOf(w) * products[rest];
            for (int ahead = 0; ahead <= TONGUES; ahead++) {
                boolean switches = ahead != t && ahead != FIRST;
                int c = caseOf(from, pieces, ahead);
                if (isBetter(switches ? sum + slips.switchPrice() : sum, product, c)) {
                    sums[c] = switches ? sum + slips.switchPrice() : sum;
                    products[c] = product;
                    firstWords[c] = w;
                    firstLengths[c] = length;
                }
            }
        }

        /** What comes first by numbers is tried first, and stays where another is only as good. */
        private boolean isBetter(int sum, int product, int than) {
            return sum < sums[than] || sum == sums[than] && product > products[than];
        }

        private int bestNumberOfPieces() {
            int best = 0;
            for (int pieces = 1; pieces <= PIECES; pieces++) {
                int c = caseOf(0, pieces, FIRST);
                if (sums[c] < FAR && (best == 0 || isBetter(sums[c], products[c], caseOf(0, best, FIRST)))) {
                    best = pieces;
                }
            }
            return best;
        }

        private void follow(int allPieces) {
            foundWords.clear();
            foundLengths.clear();
            foundSum = sums[caseOf(0, allPieces, FIRST)];
            int from = 0;
            int ahead = FIRST;
            for (int pieces = allPieces; pieces > 0; pieces--) {
                int c = caseOf(from, pieces, ahead);
                foundWords.add(firstWords[c]);
                foundLengths.add(firstLengths[c]);
                from += firstLengths[c];
                ahead = words.tongueOf(firstWords[c]);
            }
        }
    }

    /** BOTH of WORDS, the PAD of WORDS, and what is CHOSEN for it. */
    private static final class Choice {
        private final Words words;
        private final int[][] together = new int[WORDS][WORDS];
        private int pairs;
        private final Row pad = new Row(PAD_WORDS);
        private final Row fixed = new Row(PAD_WORDS);
        private final Row chosenWords = new Row(PAD_WORDS);
        /** By place on the PAD and WORD: the greatest product from there on, 0 of WORDS that can not stand there. */
        private final long[][] greatest = new long[PAD_WORDS][WORDS];
        private final int[][] nextWords = new int[PAD_WORDS][WORDS];

        Choice(Words words) {
            this.words = words;
        }

        int pairs() {
            return pairs;
        }

        int together(int first, int second) {
            return together[first][second];
        }

        int setTogether(int first, int second, int n) {
            int old = together[first][second];
            together[first][second] = n;
            pairs += (n > 0 ? 1 : 0) - (old > 0 ? 1 : 0);
            return old;
        }

        int padSize() {
            return pad.size();
        }

        boolean isPadFull() {
            return pad.isFull();
        }

        int addToPad(int w, boolean isFixed) {
            pad.add(w);
            fixed.add(isFixed ? 1 : 0);
            return pad.size();
        }

        int clearPad() {
            fixed.clear();
            return pad.clear();
        }

        Row chosenWords() {
            return chosenWords;
        }

        /** Chooses for the PAD: the product. */
        long choose() {
            for (int place = pad.size() - 1; place >= 0; place--) {
                weighPlace(place);
            }
            chosenWords.clear();
            if (pad.isEmpty()) {
                return 0;
            }
            int first = 0;
            for (int w = 1; w < words.size(); w++) {
                if (greatest[0][w] > greatest[0][first]) {
                    first = w;
                }
            }
            int w = first;
            for (int place = 0; place < pad.size(); place++) {
                chosenWords.add(w);
                w = nextWords[place][w];
            }
            return greatest[0][first];
        }

        private void weighPlace(int place) {
            for (int w = 0; w < words.size(); w++) {
                greatest[place][w] = canStand(place, w) ? words.countOf(w) * greatestBehind(place, w) : 0;
            }
        }

        private boolean canStand(int place, int w) {
            int said = pad.at(place);
            return w == said || fixed.at(place) == 0 && words.soundAlike(said, w);
        }

        /** The greatest product behind a WORD at a place; the WORD with which it comes is kept. */
        private long greatestBehind(int place, int w) {
            nextWords[place][w] = 0;
            if (place == pad.size() - 1) {
                return 1;
            }
            long most = 0;
            for (int next = 0; next < words.size(); next++) {
                long product = (together[w][next] + 1) * greatest[place + 1][next];
                if (product > most) {
                    most = product;
                    nextWords[place][w] = next;
                }
            }
            return most;
        }
    }

    /** What HANDS learned, their BUDGETS, and the LOTS. */
    private static final class Hands {
        private final Row handsOfLearnings = new Row(LEARNINGS);
        private final Row wordsOfLearnings = new Row(LEARNINGS);
        private final Row daysOfLearnings = new Row(LEARNINGS);
        private final int[] budgets = {100, 100, 100, 100};
        private int fading = 900;
        private int lotSeed = 1;

        int learnings() {
            return handsOfLearnings.size();
        }

        boolean isFull() {
            return handsOfLearnings.isFull();
        }

        int addLearning(int hand, int word, int day) {
            handsOfLearnings.add(hand);
            wordsOfLearnings.add(word);
            daysOfLearnings.add(day);
            return learnings();
        }

        /** The latest DAY of what a HAND still knows: of what is forgotten no DAY stays. */
        int latestDay(int hand) {
            int latest = 0;
            for (int i = 0; i < learnings(); i++) {
                if (handsOfLearnings.at(i) == hand) {
                    latest = Math.max(latest, daysOfLearnings.at(i));
                }
            }
            return latest;
        }

        int worthOf(int hand, int word, int day) {
            int sum = 0;
            for (int i = 0; i < learnings(); i++) {
                if (isOf(i, hand, word) && daysOfLearnings.at(i) <= day) {
                    sum += faded(day - daysOfLearnings.at(i));
                }
            }
            return sum;
        }

        private boolean isOf(int i, int hand, int word) {
            return handsOfLearnings.at(i) == hand && wordsOfLearnings.at(i) == word;
        }

        private int faded(int days) {
            int left = WHOLE;
            for (int d = 0; d < days; d++) {
                int next = left * fading / WHOLE;
                if (next == left) {
                    return left;
                }
                left = next;
            }
            return left;
        }

        /** Drops what a HAND learned of a WORD, or (ABSENT) of all: how many learnings. */
        int dropLearnings(int hand, int word) {
            int old = learnings();
            for (int i = old - 1; i >= 0; i--) {
                if (isOf(i, hand, word == ABSENT ? wordsOfLearnings.at(i) : word)) {
                    handsOfLearnings.remove(i);
                    wordsOfLearnings.remove(i);
                    daysOfLearnings.remove(i);
                }
            }
            return old - learnings();
        }

        int setFade(int v) {
            int old = fading;
            fading = v;
            return old;
        }

        int budgetOf(int hand) {
            return budgets[hand];
        }

        int setBudget(int hand, int v) {
            int old = budgets[hand];
            budgets[hand] = v;
            return old;
        }

        int setSeed(int x) {
            int old = lotSeed;
            lotSeed = x;
            return old;
        }

        int givers(int e) {
            int n = 0;
            for (int hand = 0; hand < HANDS; hand++) {
                n += budgets[hand] >= e ? 1 : 0;
            }
            return n;
        }

        int sumWithLot(int word, int e, int day) {
            int sum = 0;
            for (int hand = 0; hand < HANDS; hand++) {
                if (budgets[hand] >= e) {
                    sum += Math.min(GIFT, worthOf(hand, word, day));
                    budgets[hand] -= e;
                }
            }
            return sum + drawLot(e);
        }

        private int drawLot(int e) {
            lotSeed = (int) (lotSeed * 16807L % 2147483647L);
            return (lotSeed % 2001 - 1000) * 100 / Math.max(e, 1);
        }
    }

    /** PLACES and SYMBOLS, and one LAYOUT at a time that is looked at: where each SYMBOL lies. */
    private static final class Layouts {
        private int size;
        private final int[] efforts = new int[SYMBOLS];
        private final int[] fingers = new int[SYMBOLS];
        private final int[] loads = new int[SYMBOLS];
        private final int[][] pairLoads = new int[SYMBOLS][SYMBOLS];
        private int sameFinger = 5;
        private final int[] places = new int[SYMBOLS];
        private int leastCost;
        private int leastDigits;

        Layouts() {
            startAnew(4);
        }

        int size() {
            return size;
        }

        boolean has(int i) {
            return i >= 0 && i < size;
        }

        int startAnew(int k) {
            int old = size;
            size = k;
            for (int i = 0; i < SYMBOLS; i++) {
                efforts[i] = 1;
                fingers[i] = 0;
                loads[i] = 0;
                for (int j = 0; j < SYMBOLS; j++) {
                    pairLoads[i][j] = 0;
                }
            }
            return old;
        }

        int setEffort(int place, int v) {
            int old = efforts[place];
            efforts[place] = v;
            return old;
        }

        int setFinger(int place, int v) {
            int old = fingers[place];
            fingers[place] = v;
            return old;
        }

        int setLoad(int symbol, int v) {
            int old = loads[symbol];
            loads[symbol] = v;
            return old;
        }

        int setPair(int a, int b, int v) {
            int old = pairLoads[a][b];
            pairLoads[a][b] = v;
            return old;
        }

        int setSame(int v) {
            int old = sameFinger;
            sameFinger = v;
            return old;
        }

        /** Looks at the LAYOUT of these digits: whether they are one. */
        boolean read(int layout) {
            int rest = Math.max(layout, 0);
            int used = 0;
            for (int s = size - 1; s >= 0; s--) {
                places[s] = rest % 10;
                used |= 1 << places[s];
                rest /= 10;
            }
            return layout >= 0 && rest == 0 && used == (1 << size) - 1;
        }

        int digits() {
            int layout = 0;
            for (int s = 0; s < size; s++) {
                layout = 10 * layout + places[s];
            }
            return layout;
        }

        int totalCost() {
            int sum = 0;
            for (int s = 0; s < size; s++) {
                sum += addedCost(s);
            }
            return sum;
        }

        /** What a SYMBOL adds to the COST of those with lesser numbers. */
        private int addedCost(int s) {
            int sum = loads[s] * efforts[places[s]];
            for (int other = 0; other < s; other++) {
                int both = pairLoads[s][other] + pairLoads[other][s];
                if (both > 0) {
                    sum += both * farness(places[s], places[other]);
                }
            }
            return sum;
        }

        private int farness(int a, int b) {
            return Math.abs(a - b) + (fingers[a] == fingers[b] ? sameFinger : 0);
        }

        void exchange(int a, int b) {
            int place = places[a];
            places[a] = places[b];
            places[b] = place;
        }

        int leastCostly() {
            leastCost = FAR;
            leastDigits = 0;
            placeOnward(this, 0, 0, 0);
            return leastDigits;
        }

        /** Tries all PLACES for a SYMBOL and those behind it, the first by digits first. */
        private static void placeOnward(Layouts on, int symbol, int used, int costSoFar) {
            // COST never becomes less by another SYMBOL, and of like LAYOUTS the first is wanted.
            if (costSoFar >= on.leastCost) {
                return;
            }
            if (symbol >= on.size) {
                on.leastCost = costSoFar;
                on.leastDigits = on.digits();
                return;
            }
            for (int place = 0; place < on.size; place++) {
                if (!hasBit(used, place)) {
                    on.places[symbol] = place;
                    placeOnward(on, symbol + 1, used | 1 << place, costSoFar + on.addedCost(symbol));
                }
            }
        }

        int lowerBound() {
            int sum = 0;
            for (int i = 0; i < size; i++) {
                sum += ranked(loads, size - 1 - i) * ranked(efforts, i);
                for (int j = 0; j < size; j++) {
                    sum += i == j ? 0 : pairLoads[i][j];
                }
            }
            return sum;
        }

        /** The number that stands at a place when the first ones of a row are sorted, the least first. */
        private int ranked(int[] row, int rank) {
            for (int i = 0; i < size; i++) {
                int ahead = 0;
                for (int j = 0; j < size; j++) {
                    ahead += row[j] < row[i] || row[j] == row[i] && j < i ? 1 : 0;
                }
                if (ahead == rank) {
                    return row[i];
                }
            }
            return 0;
        }

        /** BETTERS the LAYOUT that is looked at: how many exchanges. */
        int improve() {
            int exchanges = 0;
            // Each exchange makes the COST less, so that no LAYOUT comes twice: there are 5040 at most.
            while (exchanges < 5040 && improveOnce()) {
                exchanges++;
            }
            return exchanges;
        }

        private boolean improveOnce() {
            int least = totalCost();
            int first = ABSENT;
            int second = ABSENT;
            for (int a = 0; a < size; a++) {
                for (int b = a + 1; b < size; b++) {
                    exchange(a, b);
                    int cost = totalCost();
                    exchange(a, b);
                    if (cost < least) {
                        least = cost;
                        first = a;
                        second = b;
                    }
                }
            }
            if (first == ABSENT) {
                return false;
            }
            exchange(first, second);
            return true;
        }

        void startAtFirst() {
            for (int s = 0; s < size; s++) {
                places[s] = s;
            }
        }

        /** Goes on to the next LAYOUT by digits: whether there is one. */
        boolean stepOn() {
            int s = size - 2;
            while (s >= 0 && places[s] > places[s + 1]) {
                s--;
            }
            if (s < 0) {
                return false;
            }
            int t = size - 1;
            while (t > s && places[t] < places[s]) {
                t--;
            }
            exchange(s, t);
            for (int a = s + 1, b = size - 1; a < b; a++, b--) {
                exchange(a, b);
            }
            return true;
        }

        /** How many LAYOUTS come ahead of this one by digits. */
        int rank() {
            int rank = 0;
            for (int s = 0; s < size; s++) {
                int lesser = 0;
                for (int t = s + 1; t < size; t++) {
                    lesser += places[t] < places[s] ? 1 : 0;
                }
                rank = rank * (size - s) + lesser;
            }
            return rank;
        }
    }

    /** WAYS over all LAYOUTS of few SYMBOLS; LAYOUTS bear the numbers of their order by digits. */
    private static final class Ways {
        private final Layouts layouts;
        private final int[] digits = new int[WAY_LAYOUTS];
        private final int[] costs = new int[WAY_LAYOUTS];
        private final int[] neighbours = new int[WAY_LAYOUTS * WAY_EXCHANGES];
        private final int[] peaks = new int[WAY_LAYOUTS];
        private final boolean[] settled = new boolean[WAY_LAYOUTS];
        private final int[] steps = new int[WAY_LAYOUTS];
        private final Row queue = new Row(WAY_LAYOUTS);
        private final Row path = new Row(WAY_LAYOUTS);
        private int size;
        private int exchanges;
        private int lowestPeak;

        Ways(Layouts layouts) {
            this.layouts = layouts;
        }

        int peak() {
            return lowestPeak;
        }

        Row path() {
            return path;
        }

        void find(int from, int to) {
            layouts.read(from);
            int start = layouts.rank();
            layouts.read(to);
            int end = layouts.rank();
            listLayouts();
            lowestPeak = peakOfWay(start, end);
            countSteps(end);
            walk(start);
        }

        private void listLayouts() {
            size = 0;
            exchanges = layouts.size() * (layouts.size() - 1) / 2;
            layouts.startAtFirst();
            boolean more = true;
            while (more && size < WAY_LAYOUTS) {
                digits[size] = layouts.digits();
                costs[size] = layouts.totalCost();
                listNeighbours(size);
                size++;
                more = layouts.stepOn();
            }
        }

        private void listNeighbours(int r) {
            int next = r * WAY_EXCHANGES;
            for (int a = 0; a < layouts.size(); a++) {
                for (int b = a + 1; b < layouts.size(); b++) {
                    layouts.exchange(a, b);
                    neighbours[next] = layouts.rank();
                    next++;
                    layouts.exchange(a, b);
                }
            }
        }

        private int neighbour(int r, int e) {
            return neighbours[r * WAY_EXCHANGES + e];
        }

        /** The least that the greatest COST on a way can be. */
        private int peakOfWay(int start, int end) {
            for (int r = 0; r < size; r++) {
                peaks[r] = FAR;
                settled[r] = false;
            }
            peaks[start] = costs[start];
            for (int round = 0; round < size && !settled[end]; round++) {
                int r = lowestUnsettled();
                settled[r] = true;
                for (int e = 0; e < exchanges; e++) {
                    int next = neighbour(r, e);
                    peaks[next] = Math.min(peaks[next], Math.max(peaks[r], costs[next]));
                }
            }
            return peaks[end];
        }

        private int lowestUnsettled() {
            int lowest = 0;
            for (int r = 1; r < size; r++) {
                if (settled[lowest] || !settled[r] && peaks[r] < peaks[lowest]) {
                    lowest = r;
                }
            }
            return lowest;
        }

        /** Counts for each LAYOUT the exchanges to the end that stay at the peak or below. */
        private void countSteps(int end) {
            for (int r = 0; r < size; r++) {
                steps[r] = ABSENT;
            }
            steps[end] = 0;
            queue.clear();
            queue.add(end);
            for (int done = 0; done < WAY_LAYOUTS && done < queue.size(); done++) {
                int r = queue.at(done);
                for (int e = 0; e < exchanges; e++) {
                    int next = neighbour(r, e);
                    if (steps[next] == ABSENT && costs[next] <= lowestPeak) {
                        steps[next] = steps[r] + 1;
                        queue.add(next);
                    }
                }
            }
        }

        private void walk(int start) {
            path.clear();
            path.add(digits[start]);
            int r = start;
            for (int left = steps[start] - 1; left >= 0; left--) {
                r = firstWith(left, r);
                path.add(digits[r]);
            }
        }

        /** The first neighbour by digits that is so many exchanges from the end. */
        private int firstWith(int left, int of) {
            int first = of;
            for (int e = 0; e < exchanges; e++) {
                int next = neighbour(of, e);
                if (steps[next] == left && (first == of || next < first)) {
                    first = next;
                }
            }
            return first;
        }
    }
}
