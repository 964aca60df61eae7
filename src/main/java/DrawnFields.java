/**
 * Fields with few values, drawn at random under hard rules and soft ones.
 *
 * A row is held as a code of four values of three bits, field 0 highest, so
 * that rising codes are rows in order. A field that has not come yet counts
 * as one whose only value is 0, of weight 1: so each row has four values.
 */
public final class DrawnFields {
    public static final int NONE = -1, BAD = -2, NO = -3, FULL = -4;

    private static final int NOT_SO_MANY = -5;
    private static final int FAULT_BASE = -10;
    private static final int DIGEST_START = 2423;

    private static final int FIELDS = 4;
    private static final int VALUES = 8;
    private static final int RULES = 8;
    private static final int RANKS = 10;
    private static final int STATES = 4;
    private static final int UNLIKE_ROWS = 16;
    private static final int SUMS = 29;
    private static final int TEXT_BYTES = 150;
    private static final int HEAVIEST = 9;
    private static final int LAST_SEED = 999999;

    private static final int SUM = 0;
    private static final int LESS = 1;
    private static final int UNLIKE = 2;
    private static final int ONE_OF = 3;
    private static final int IF = 4;
    private static final int APART = 5;
    private static final int[] MOST_C = {14, 0, 0, 255, 63, 7};

    private static final int WORDS = 64;
    private static final int WORD_BITS = 64;

    private final State state = new State();
    private final Past past = new Past();
    private final Law law = new Law();
    private final Drawer drawer = new Drawer();
    private final RowSet picked = new RowSet();
    private final Text text = new Text();
    private final int[] refusals = new int[3];
    private final int[] rowsBySum = new int[SUMS];

    public DrawnFields() {
    }

    // ---- fields and rules

    public int field(int low, int high) {
        past.mark(state);
        return settled(tryField(low, high));
    }

    public int range(int f, int low, int high) {
        past.mark(state);
        return settled(tryRange(f, low, high));
    }

    public int weighs(int f, int v, int w) {
        past.mark(state);
        return settled(tryWeight(f, v, w));
    }

    public int round(int f, int is) {
        past.mark(state);
        return settled(tryRound(f, is));
    }

    public int orders(int f, int p) {
        past.mark(state);
        return settled(tryPlace(f, p));
    }

    public int rule(int kind, int x, int y, int c, int rank) {
        past.mark(state);
        return settled(tryRule(kind, x, y, c, rank));
    }

    public int drops(int k) {
        past.mark(state);
        return settled(tryDrop(k));
    }

    public int of(int f, int what) {
        if (!state.hasField(f) || what < 0 || what > 5) {
            return counted(BAD);
        }
        return state.factOfField(f, what);
    }

    public int about(int k, int what) {
        if (!state.hasRule(k) || what < 0 || what > 5) {
            return counted(BAD);
        }
        law.look(state);
        return factOfRule(k, what);
    }

    // ---- rows

    public int rows() {
        law.look(state);
        return law.lawful.size();
    }

    public int row(int i, int f) {
        if (i < 0 || !state.hasField(f)) {
            return counted(BAD);
        }
        law.look(state);
        int code = law.lawful.codeAt(i);
        return code == NONE ? NOT_SO_MANY : valueIn(code, f);
    }

    public int heavy(int f, int v) {
        if (f == NONE ? v != 0 : !state.hasField(f) || v < 0 || v >= VALUES) {
            return counted(BAD);
        }
        law.look(state);
        if (f == NONE) {
            return state.weightOfRows(law.lawful);
        }
        picked.becomes(law.lawful);
        picked.keepValues(f, 1 << v);
        return state.weightOfRows(picked);
    }

    public int sums(int s) {
        if (s < 0) {
            return counted(BAD);
        }
        law.look(state);
        law.lawful.countBySum(rowsBySum);
        return s < SUMS ? rowsBySum[s] : 0;
    }

    public int sum(int i) {
        if (i < 0) {
            return counted(BAD);
        }
        law.look(state);
        law.lawful.countBySum(rowsBySum);
        int ahead = 0;
        for (int s = 0; s < SUMS; s++) {
            if (rowsBySum[s] > 0) {
                if (ahead == i) {
                    return s;
                }
                ahead++;
            }
        }
        return NOT_SO_MANY;
    }

    public int soft(int i) {
        if (i < 0) {
            return counted(BAD);
        }
        int ahead = 0;
        for (int rank = 0; rank < RANKS; rank++) {
            for (int k = 0; k < state.ruleCount; k++) {
                if (state.rules[k].rank == rank) {
                    if (ahead == i) {
                        return k;
                    }
                    ahead++;
                }
            }
        }
        return NOT_SO_MANY;
    }

    public int core() {
        law.look(state);
        return law.coreRules;
    }

    // ---- draws

    public int draws(int how, int seed) {
        past.mark(state);
        return settled(tryDraw(how, seed));
    }

    public int drawn(int i, int f) {
        if (i < NONE || (i == NONE ? f != 0 : !state.hasField(f))) {
            return counted(BAD);
        }
        if (i == NONE) {
            return state.unlikeCount;
        }
        return i < state.unlikeCount ? valueIn(state.unlike[i], f) : NOT_SO_MANY;
    }

    // ---- texts

    public int type(int c) {
        if (c < 0 || c > 127) {
            return counted(BAD);
        }
        return counted(text.add(c));
    }

    public int clear() {
        int had = text.length;
        text.length = 0;
        return had;
    }

    public int reads() {
        int fault = text.findFault();
        if (fault != NONE) {
            return FAULT_BASE - fault;
        }
        past.mark(state);
        int done = 0;
        text.at = 0;
        for (int n = 0; n < TEXT_BYTES && text.readOrder(); n++) {
            if (performOrder() >= 0) {
                done++;
            }
        }
        return settled(done);
    }

    public int back() {
        return counted(past.restore(state));
    }

    public int told(int what) {
        if (what < 0 || what > 6) {
            return counted(BAD);
        }
        return factOfAll(what);
    }

    public long digest() {
        law.look(state);
        long h = DIGEST_START;
        for (int what = 0; what <= 6; what++) {
            h = 31 * h + factOfAll(what);
        }
        for (int f = 0; f < state.fieldCount; f++) {
            h = digestOfField(h, f);
        }
        for (int k = 0; k < state.ruleCount; k++) {
            for (int what = 0; what <= 5; what++) {
                h = 31 * h + factOfRule(k, what);
            }
        }
        h = 31 * h + law.lawful.size();
        h = 31 * h + state.weightOfRows(law.lawful);
        h = 31 * h + law.coreRules;
        return digestOfDrawn(h);
    }

    // ---- what the calls share

    /** How a call that leaves a state ends: an answer below 0 is a refusal. */
    private int settled(int answer) {
        if (answer >= 0) {
            past.keepMark();
        }
        return counted(answer);
    }

    private int counted(int answer) {
        if (answer <= BAD && answer >= FULL) {
            refusals[BAD - answer]++;
        }
        return answer;
    }

    private int factOfAll(int what) {
        switch (what) {
            case 0:
            case 1:
            case 2: return refusals[what];
            case 3: return text.length;
            case 4: return state.fieldCount;
            case 5: return state.ruleCount;
            default: return past.count;
        }
    }

    private int factOfRule(int k, int what) {
        Rule rule = state.rules[k];
        switch (what) {
            case 0: return rule.kind;
            case 1: return rule.x;
            case 2: return rule.y;
            case 3: return rule.c;
            case 4: return rule.rank;
            default: return (law.keptRules >> k) & 1;
        }
    }

    private long digestOfField(long start, int f) {
        long h = start;
        for (int what = 0; what <= 5; what++) {
            h = 31 * h + state.factOfField(f, what);
        }
        for (int v = 0; v < VALUES; v++) {
            h = 31 * h + state.fields[f].weights[v];
        }
        return h;
    }

    private long digestOfDrawn(long start) {
        long h = 31 * start + state.unlikeCount;
        for (int i = 0; i < state.unlikeCount; i++) {
            for (int f = 0; f < state.fieldCount; f++) {
                h = 31 * h + valueIn(state.unlike[i], f);
            }
        }
        return h;
    }

    private static int valueIn(int code, int f) {
        return (code >> (3 * (FIELDS - 1 - f))) & (VALUES - 1);
    }

    private static boolean isRange(int low, int high) {
        return low >= 0 && low <= high && high < VALUES;
    }

    // ---- the orders, as calls and texts give them: the answer or a refusal, not yet counted

    private int tryField(int low, int high) {
        if (!isRange(low, high)) {
            return BAD;
        }
        return state.fieldCount == FIELDS ? FULL : state.addField(low, high);
    }

    private int tryRange(int f, int low, int high) {
        if (!state.hasField(f) || !isRange(low, high)) {
            return BAD;
        }
        state.fields[f].low = low;
        state.fields[f].high = high;
        state.emptyDrawn();
        return high - low + 1;
    }

    private int tryWeight(int f, int v, int w) {
        if (!state.hasField(f) || v < 0 || v >= VALUES || w < 0 || w > HEAVIEST) {
            return BAD;
        }
        int was = state.fields[f].weights[v];
        state.fields[f].weights[v] = w;
        return was;
    }

    private int tryRound(int f, int is) {
        if (!state.hasField(f) || is < 0 || is > 1) {
            return BAD;
        }
        int was = state.fields[f].round;
        state.fields[f].round = is;
        state.fields[f].turn = 0;
        return was;
    }

    private int tryPlace(int f, int p) {
        if (!state.hasField(f) || p < 0 || p >= state.fieldCount) {
            return BAD;
        }
        return state.moveInOrder(f, p);
    }

    private int tryRule(int kind, int x, int y, int c, int rank) {
        if (!state.isRule(kind, x, y, c) || rank < NONE || rank >= RANKS) {
            return BAD;
        }
        return state.ruleCount == RULES ? FULL : state.addRule(kind, x, y, c, rank);
    }

    private int tryDrop(int k) {
        return state.hasRule(k) ? state.dropRule(k) : BAD;
    }

    private int tryDraw(int how, int seed) {
        if (how < 0 || how > 1 || seed < 0 || seed > LAST_SEED) {
            return BAD;
        }
        law.look(state);
        if (law.lawful.isEmpty()) {
            return NO;
        }
        drawer.begin(law.lawful, seed);
        int code = how == 0 ? drawer.drawTogether(state) : drawer.drawInOrder(state);
        state.noteDraw(code);
        return law.lawful.countAhead(code);
    }

    /** Does the order that the text has just read. */
    private int performOrder() {
        int[] n = text.numbers;
        switch (text.letter) {
            case 'f': return tryField(n[0], n[1]);
            case 'h': return tryRule(n[0], n[1], n[2], n[3], NONE);
            case 's': return tryRule(n[1], n[2], n[3], n[4], n[0]);
            case 'w': return tryWeight(n[0], n[1], n[2]);
            case 'r': return tryRound(n[0], 1);
            case 'x': return tryDrop(n[0]);
            case 'd': return tryDraw(0, n[0]);
            default: return tryDraw(1, n[0]);
        }
    }

    private static final class Field {
        int low;
        int high;
        int round;
        int turn;
        final int[] weights = new int[VALUES];

        Field() {
            begin(0, 0);
        }

        void begin(int lowest, int highest) {
            low = lowest;
            high = highest;
            round = 0;
            turn = 0;
            for (int v = 0; v < VALUES; v++) {
                weights[v] = 1;
            }
        }

        void becomes(Field other) {
            low = other.low;
            high = other.high;
            round = other.round;
            turn = other.turn;
            System.arraycopy(other.weights, 0, weights, 0, VALUES);
        }

        int valueBits() {
            return (1 << (high + 1)) - (1 << low);
        }

        /** Of the values that can be, those that may come in this turn; where none may, a new turn begins. */
        int inTurn(int can) {
            if (round == 0) {
                return can;
            }
            int fresh = can & ~turn;
            if (fresh == 0) {
                turn = 0;
                return can;
            }
            return fresh;
        }

        int weightOfValues(int values) {
            int together = 0;
            for (int v = 0; v < VALUES; v++) {
                if (((values >> v) & 1) != 0) {
                    together += weights[v];
                }
            }
            return together;
        }
    }

    private static final class Rule {
        int kind;
        int x;
        int y;
        int c;
        int rank;

        void becomes(Rule other) {
            kind = other.kind;
            x = other.x;
            y = other.y;
            c = other.c;
            rank = other.rank;
        }

        boolean isKeptBy(int a, int b) {
            switch (kind) {
                case SUM: return a + b == c;
                case LESS: return a < b;
                case UNLIKE: return a != b;
                case ONE_OF: return ((c >> a) & 1) != 0;
                case IF: return a != c / VALUES || b == c % VALUES;
                default: return a - b >= c || b - a >= c;
            }
        }

        /** The values of y, as bits, with which the value a of x keeps the rule. */
        int partnersOf(int a) {
            int partners = 0;
            for (int b = 0; b < VALUES; b++) {
                if (isKeptBy(a, b)) {
                    partners |= 1 << b;
                }
            }
            return partners;
        }
    }

    /** All that a step back brings back. */
    private static final class State {
        int fieldCount;
        final Field[] fields = new Field[FIELDS];
        final int[] order = new int[FIELDS];
        int ruleCount;
        final Rule[] rules = new Rule[RULES];
        int now = NONE;
        int unlikeCount;
        final int[] unlike = new int[UNLIKE_ROWS];
        /** Whether the law was looked at since fields, ranges or rules changed: it is dear to find anew. */
        boolean lawKnown;

        State() {
            for (int f = 0; f < FIELDS; f++) {
                fields[f] = new Field();
            }
            for (int k = 0; k < RULES; k++) {
                rules[k] = new Rule();
            }
        }

        void becomes(State other) {
            fieldCount = other.fieldCount;
            for (int f = 0; f < FIELDS; f++) {
                fields[f].becomes(other.fields[f]);
            }
            System.arraycopy(other.order, 0, order, 0, FIELDS);
            ruleCount = other.ruleCount;
            for (int k = 0; k < ruleCount; k++) {
                rules[k].becomes(other.rules[k]);
            }
            now = other.now;
            unlikeCount = other.unlikeCount;
            System.arraycopy(other.unlike, 0, unlike, 0, unlikeCount);
            lawKnown = false;
        }

        boolean hasField(int f) {
            return f >= 0 && f < fieldCount;
        }

        boolean hasRule(int k) {
            return k >= 0 && k < ruleCount;
        }

        boolean isRule(int kind, int x, int y, int c) {
            if (kind < 0 || kind > APART || !hasField(x) || !hasField(y)) {
                return false;
            }
            return (x == y) == (kind == ONE_OF) && c >= 0 && c <= MOST_C[kind];
        }

        int addField(int low, int high) {
            int f = fieldCount;
            fields[f].begin(low, high);
            order[f] = f;
            fieldCount++;
            emptyDrawn();
            return f;
        }

        int addRule(int kind, int x, int y, int c, int rank) {
            Rule rule = rules[ruleCount];
            rule.kind = kind;
            rule.x = x;
            rule.y = y;
            rule.c = c;
            rule.rank = rank;
            ruleCount++;
            emptyDrawn();
            return ruleCount - 1;
        }

        int dropRule(int k) {
            ruleCount--;
            for (int i = k; i < ruleCount; i++) {
                rules[i].becomes(rules[i + 1]);
            }
            emptyDrawn();
            return ruleCount;
        }

        void emptyDrawn() {
            now = NONE;
            unlikeCount = 0;
            for (int f = 0; f < FIELDS; f++) {
                fields[f].turn = 0;
            }
            lawKnown = false;
        }

        int placeInOrder(int f) {
            for (int p = 0; p < fieldCount; p++) {
                if (order[p] == f) {
                    return p;
                }
            }
            return NONE;
        }

        int moveInOrder(int f, int p) {
            int was = placeInOrder(f);
            for (int i = was; i >= 0 && i < p; i++) {
                order[i] = order[i + 1];
            }
            for (int i = was; i > p; i--) {
                order[i] = order[i - 1];
            }
            order[p] = f;
            return was;
        }

        int factOfField(int f, int what) {
            switch (what) {
                case 0: return fields[f].low;
                case 1: return fields[f].high;
                case 2: return fields[f].round;
                case 3: return placeInOrder(f);
                case 4: return fields[f].turn;
                default: return now == NONE ? NONE : valueIn(now, f);
            }
        }

        void noteDraw(int code) {
            for (int f = 0; f < fieldCount; f++) {
                if (fields[f].round == 1) {
                    fields[f].turn |= 1 << valueIn(code, f);
                }
            }
            now = code;
            for (int i = 0; i < unlikeCount; i++) {
                if (unlike[i] == code) {
                    return;
                }
            }
            if (unlikeCount < UNLIKE_ROWS) {
                unlike[unlikeCount] = code;
                unlikeCount++;
            }
        }

        int weightOfRow(int code) {
            int weight = 1;
            for (int f = 0; f < FIELDS; f++) {
                weight *= fields[f].weights[valueIn(code, f)];
            }
            return weight;
        }

        int weightOfRows(RowSet rows) {
            int together = 0;
            for (int w = 0; w < WORDS; w++) {
                together += weightOfWord(w, rows.words[w]);
            }
            return together;
        }

        /** The weights of the rows of one word; the two fields it stands for are taken once for all of them. */
        int weightOfWord(int w, long bits) {
            int ofWord = fields[0].weights[RowSet.wordValue(w, 0)] * fields[1].weights[RowSet.wordValue(w, 1)];
            if (bits == 0 || ofWord == 0) {
                return 0;
            }
            int within = 0;
            for (int v = 0; v < VALUES; v++) {
                int values = (int) (bits >>> (VALUES * v)) & 255;
                if (values != 0) {
                    within += fields[2].weights[v] * fields[3].weightOfValues(values);
                }
            }
            return ofWord * within;
        }
    }

    /** The states to go back to, the newest last; made once, as a state is too large to be made by each call. */
    private static final class Past {
        int count;
        /** One slot more than states: a mark lies behind them, so that a refused call loses none. */
        private final State[] slots = new State[STATES + 1];

        Past() {
            for (int i = 0; i <= STATES; i++) {
                slots[i] = new State();
            }
        }

        void mark(State state) {
            slots[count].becomes(state);
        }

        void keepMark() {
            if (count < STATES) {
                count++;
                return;
            }
            State oldest = slots[0];
            for (int i = 0; i < STATES; i++) {
                slots[i] = slots[i + 1];
            }
            slots[STATES] = oldest;
        }

        int restore(State state) {
            if (count == 0) {
                return NO;
            }
            count--;
            state.becomes(slots[count]);
            return count;
        }
    }

    /**
     * A set of rows, a bit each: of word v0 * 8 + v1 the bit v2 * 8 + v3, so
     * that a row's bit is its code. Rules are kept by whole words at once.
     */
    private static final class RowSet {
        private static final long EIGHT_TIMES = 0x0101010101010101L;

        final long[] words = new long[WORDS];

        /** The value that all rows of a word have at field 0 or 1. */
        static int wordValue(int w, int f) {
            return f == 0 ? w >> 3 : w & (VALUES - 1);
        }

        /** Whether a word has rows whose field f has one of the values. */
        static boolean hasWord(int w, int f, int values) {
            return f >= 2 || ((values >> wordValue(w, f)) & 1) != 0;
        }

        /** Of a word that has them, the rows whose field f has one of the values. */
        static long withinWord(int f, int values) {
            if (f < 2) {
                return -1L;
            }
            long within = 0;
            for (int v = 0; v < VALUES; v++) {
                if (((values >> v) & 1) != 0) {
                    within |= f == 2 ? 255L << (VALUES * v) : EIGHT_TIMES << v;
                }
            }
            return within;
        }

        void becomes(RowSet other) {
            System.arraycopy(other.words, 0, words, 0, WORDS);
        }

        void becomesAll() {
            for (int w = 0; w < WORDS; w++) {
                words[w] = -1L;
            }
        }

        void becomesKeepersOf(Rule rule) {
            for (int w = 0; w < WORDS; w++) {
                words[w] = 0;
            }
            for (int a = 0; a < VALUES; a++) {
                int partners = rule.partnersOf(a);
                long within = withinWord(rule.x, 1 << a) & withinWord(rule.y, partners);
                for (int w = 0; w < WORDS; w++) {
                    if (hasWord(w, rule.x, 1 << a) && hasWord(w, rule.y, partners)) {
                        words[w] |= within;
                    }
                }
            }
        }

        void keepRowsOf(RowSet other) {
            for (int w = 0; w < WORDS; w++) {
                words[w] &= other.words[w];
            }
        }

        void keepValues(int f, int values) {
            long within = withinWord(f, values);
            for (int w = 0; w < WORDS; w++) {
                words[w] = hasWord(w, f, values) ? words[w] & within : 0;
            }
        }

        boolean isEmpty() {
            for (int w = 0; w < WORDS; w++) {
                if (words[w] != 0) {
                    return false;
                }
            }
            return true;
        }

        int size() {
            int count = 0;
            for (int w = 0; w < WORDS; w++) {
                count += Long.bitCount(words[w]);
            }
            return count;
        }

        /** The values, as bits, that the rows have at field f. */
        int valuesAt(int f) {
            int ofWords = 0;
            long any = 0;
            for (int w = 0; w < WORDS; w++) {
                if (words[w] != 0) {
                    ofWords |= 1 << wordValue(w, f);
                    any |= words[w];
                }
            }
            return f < 2 ? ofWords : valuesWithin(any, f);
        }

        private static int valuesWithin(long bits, int f) {
            int values = 0;
            for (int v = 0; v < VALUES; v++) {
                if ((bits & withinWord(f, 1 << v)) != 0) {
                    values |= 1 << v;
                }
            }
            return values;
        }

        /** The code of the i-th row, NONE if there are not so many. */
        int codeAt(int i) {
            int left = i;
            for (int w = 0; w < WORDS; w++) {
                int here = Long.bitCount(words[w]);
                if (left < here) {
                    return w * WORD_BITS + bitAt(words[w], left);
                }
                left -= here;
            }
            return NONE;
        }

        private static int bitAt(long bits, int i) {
            int left = i;
            for (int b = 0; b < WORD_BITS; b++) {
                if (((bits >>> b) & 1) != 0) {
                    if (left == 0) {
                        return b;
                    }
                    left--;
                }
            }
            return 0;
        }

        int countAhead(int code) {
            int ahead = 0;
            for (int w = 0; w < WORDS && w < code / WORD_BITS; w++) {
                ahead += Long.bitCount(words[w]);
            }
            long below = (1L << (code % WORD_BITS)) - 1;
            return ahead + Long.bitCount(words[(code / WORD_BITS) & (WORDS - 1)] & below);
        }

        void countBySum(int[] counts) {
            for (int s = 0; s < SUMS && s < counts.length; s++) {
                counts[s] = 0;
            }
            for (int w = 0; w < WORDS; w++) {
                int ofWord = wordValue(w, 0) + wordValue(w, 1);
                for (int b = 0; b < WORD_BITS && words[w] != 0; b++) {
                    int s = ofWord + b / VALUES + b % VALUES;
                    if (((words[w] >>> b) & 1) != 0 && s < counts.length) {
                        counts[s]++;
                    }
                }
            }
        }
    }

    /** What follows of the ranges and rules of a state. */
    private static final class Law {
        final RowSet lawful = new RowSet();
        /** The hard rules and the soft ones that are kept, as bits. */
        int keptRules;
        int coreRules;
        private final RowSet inRanges = new RowSet();
        private final RowSet[] keepers = new RowSet[RULES];

        Law() {
            for (int k = 0; k < RULES; k++) {
                keepers[k] = new RowSet();
            }
        }

        void look(State state) {
            if (state.lawKnown) {
                return;
            }
            state.lawKnown = true;
            inRanges.becomesAll();
            for (int f = 0; f < FIELDS; f++) {
                inRanges.keepValues(f, state.fields[f].valueBits());
            }
            int hard = 0;
            for (int k = 0; k < state.ruleCount; k++) {
                keepers[k].becomesKeepersOf(state.rules[k]);
                if (state.rules[k].rank == NONE) {
                    hard |= 1 << k;
                }
            }
            keptRules = withSoft(state, hard);
            coreRules = someRowKeeps(hard) ? 0 : leastUnkept(hard);
            lawful.becomes(inRanges);
            for (int k = 0; k < state.ruleCount; k++) {
                if (((keptRules >> k) & 1) != 0) {
                    lawful.keepRowsOf(keepers[k]);
                }
            }
        }

        private int withSoft(State state, int hard) {
            int kept = hard;
            for (int rank = 0; rank < RANKS; rank++) {
                for (int k = 0; k < state.ruleCount; k++) {
                    if (state.rules[k].rank == rank && someRowKeeps(kept | (1 << k))) {
                        kept |= 1 << k;
                    }
                }
            }
            return kept;
        }

        private int leastUnkept(int hard) {
            int left = hard;
            for (int k = 0; k < RULES; k++) {
                int others = left & ~(1 << k);
                if (others != left && !someRowKeeps(others)) {
                    left = others;
                }
            }
            return left;
        }

        private boolean someRowKeeps(int rules) {
            for (int w = 0; w < WORDS; w++) {
                long left = inRanges.words[w];
                for (int k = 0; k < RULES && left != 0; k++) {
                    if (((rules >> k) & 1) != 0) {
                        left &= keepers[k].words[w];
                    }
                }
                if (left != 0) {
                    return true;
                }
            }
            return false;
        }
    }

    /** One draw: what may be yet, and the chances that the seed gives. */
    private static final class Drawer {
        private static final long TIMES = 1103515245L;
        private static final long AND = 12345L;
        private static final long ROOM = 2147483648L;
        private static final long CUT = 65536L;

        private final RowSet mayBe = new RowSet();
        private long x;

        void begin(RowSet lawful, int seed) {
            mayBe.becomes(lawful);
            x = seed;
        }

        int drawTogether(State state) {
            for (int f = 0; f < state.fieldCount; f++) {
                if (state.fields[f].round == 1) {
                    mayBe.keepValues(f, state.fields[f].inTurn(mayBe.valuesAt(f)));
                }
            }
            int together = state.weightOfRows(mayBe);
            boolean ones = together == 0;
            int v = chanceBelow(ones ? mayBe.size() : together);
            for (int w = 0; w < WORDS; w++) {
                long bits = mayBe.words[w];
                int here = ones ? Long.bitCount(bits) : state.weightOfWord(w, bits);
                if (v < here) {
                    return rowOfWord(state, w, v, ones);
                }
                v -= here;
            }
            return mayBe.codeAt(0);
        }

        private int rowOfWord(State state, int w, int v, boolean ones) {
            int left = v;
            for (int b = 0; b < WORD_BITS; b++) {
                if (((mayBe.words[w] >>> b) & 1) != 0) {
                    int code = w * WORD_BITS + b;
                    left -= ones ? 1 : state.weightOfRow(code);
                    if (left < 0) {
                        return code;
                    }
                }
            }
            return w * WORD_BITS;
        }

        int drawInOrder(State state) {
            for (int p = 0; p < state.fieldCount; p++) {
                int f = state.order[p];
                int can = state.fields[f].inTurn(mayBe.valuesAt(f));
                mayBe.keepValues(f, 1 << takeValue(state.fields[f], can));
            }
            return mayBe.codeAt(0);
        }

        private int takeValue(Field field, int can) {
            int together = field.weightOfValues(can);
            boolean ones = together == 0;
            int left = chanceBelow(ones ? Integer.bitCount(can) : together);
            for (int v = 0; v < VALUES; v++) {
                if (((can >> v) & 1) != 0) {
                    left -= ones ? 1 : field.weights[v];
                    if (left < 0) {
                        return v;
                    }
                }
            }
            return 0;
        }

        private int chanceBelow(int bound) {
            x = (x * TIMES + AND) % ROOM;
            return bound > 0 ? (int) (x / CUT % bound) : 0;
        }
    }

    /** The text, and the reading of its orders one by one. */
    private static final class Text {
        private static final int MOST_FIGURES = 6;
        private static final int MOST_NUMBERS = 5;

        int length;
        /** Where reading stands: where it fails, the place of the fault. */
        int at;
        int letter;
        final int[] numbers = new int[MOST_NUMBERS];
        private final int[] bytes = new int[TEXT_BYTES];

        int add(int c) {
            if (length == TEXT_BYTES) {
                return FULL;
            }
            bytes[length] = c;
            length++;
            return length;
        }

        /** The place of the fault, NONE if there is none. */
        int findFault() {
            at = 0;
            for (int n = 0; n <= TEXT_BYTES; n++) {
                if (!readOrder()) {
                    return at;
                }
                if (at == length) {
                    return NONE;
                }
            }
            return at;
        }

        /** Reads one order with the blanks around it. */
        boolean readOrder() {
            skipBlanks();
            int needed = at < length ? numbersBehind(bytes[at]) : 0;
            if (needed == 0) {
                return false;
            }
            letter = bytes[at];
            at++;
            for (int i = 0; i < needed; i++) {
                skipBlanks();
                if (!readNumber(i)) {
                    return false;
                }
            }
            skipBlanks();
            if (at >= length || bytes[at] != ';') {
                return false;
            }
            at++;
            skipBlanks();
            return true;
        }

        private static int numbersBehind(int c) {
            switch (c) {
                case 'r':
                case 'x':
                case 'd':
                case 'o': return 1;
                case 'f': return 2;
                case 'w': return 3;
                case 'h': return 4;
                case 's': return 5;
                default: return 0;
            }
        }

        private boolean readNumber(int i) {
            int number = 0;
            int figures = 0;
            while (figures < MOST_FIGURES && isFigure()) {
                number = number * 10 + bytes[at] - '0';
                at++;
                figures++;
            }
            numbers[i] = number;
            return figures > 0 && !isFigure();
        }

        private boolean isFigure() {
            return at < length && bytes[at] >= '0' && bytes[at] <= '9';
        }

        private void skipBlanks() {
            while (at < length && bytes[at] == ' ') {
                at++;
            }
        }
    }
}
