import java.util.function.IntUnaryOperator;

/** The boundary cases that the promises 1 to 25 name: a test of its own for each sentence. */
public final class PromiseEdgeTests {
    private static final int LEAST = Integer.MIN_VALUE;
    private static final int MOST = Integer.MAX_VALUE;
    private static final int NONE = -1;
    private static final int BAD = -2;
    private static final int NO = -3;
    private static final int FULL = -4;
    private static final int NOT_SO_MANY = -5;

    private static int wrong = 0;
    private static int looked = 0;
    private static String sentence = "";

    private static void test(String words, Runnable body) {
        sentence = words;
        int before = looked;
        body.run();
        if (looked == before) {
            wrong++;
            System.out.println("\"" + sentence + "\": nothing was looked at");
        }
    }

    private static void due(String what, long got, long want) {
        looked++;
        if (got != want) {
            wrong++;
            System.out.println("\"" + sentence + "\": " + what + " answered " + got + ", due is " + want);
        }
    }

    /** Asks with numbers that are too small and too large, next to what may be and far off. */
    private static void badBeside(String what, int low, int high, IntUnaryOperator call) {
        for (int n : new int[] {LEAST, low - 2, low - 1, high + 1, high + 2, MOST}) {
            due(what + " " + n, call.applyAsInt(n), BAD);
        }
    }

    private static void counts(DrawnFields x, int bad, int no, int full) {
        due("BAD counted", x.told(0), bad);
        due("NO counted", x.told(1), no);
        due("FULL counted", x.told(2), full);
    }

    private static DrawnFields withFields(int... ranges) {
        DrawnFields x = new DrawnFields();
        for (int i = 0; i + 1 < ranges.length; i += 2) x.field(ranges[i], ranges[i + 1]);
        return x;
    }

    private static int reads(DrawnFields x, String text) {
        x.clear();
        for (int i = 0; i < text.length(); i++) x.type(text.charAt(i));
        return x.reads();
    }

    private static long hash(int... values) {
        long h = 2423;
        for (int v : values) h = 31 * h + v;
        return h;
    }

    // ---- 1 to 10: fields and rules

    private static void newObject() {
        DrawnFields x = new DrawnFields();
        for (int what = 0; what <= 6; what++) due("told " + what, x.told(what), 0);
        due("digest", x.digest(), hash(0, 0, 0, 0, 0, 0, 0, 1, 1, 0, 0));
        due("drawn", x.drawn(NONE, 0), 0);
        due("the text is empty", x.clear(), 0);
        due("no STATE", x.back(), NO);
        for (int f = 0; f < 4; f++) due("no FIELD", x.of(f, 0), BAD);
        for (int k = 0; k < 8; k++) due("no RULE", x.about(k, 0), BAD);
    }

    private static void objectsApart() {
        DrawnFields x = withFields(0, 3, 0, 3);
        x.rule(2, 0, 1, 0, NONE);
        x.draws(0, 1);
        x.type('d');
        x.told(7);
        due("another new object", new DrawnFields().digest(), hash(0, 0, 0, 0, 0, 0, 0, 1, 1, 0, 0));
    }

    private static void fieldHighBelowLow() {
        DrawnFields x = new DrawnFields();
        for (int low = 1; low < 8; low++) due("one below " + low, x.field(low, low - 1), BAD);
        due("7 to 0", x.field(7, 0), BAD);
        counts(x, 8, 0, 0);
        due("like ones", x.field(3, 3), 0);
    }

    private static void fieldBad() {
        DrawnFields x = new DrawnFields();
        badBeside("LOW", 0, 7, n -> x.field(n, 7));
        badBeside("HIGH", 0, 7, n -> x.field(0, n));
        badBeside("both", 0, 7, n -> x.field(n, n));
        counts(x, 18, 0, 0);
        due("FIELDS", x.told(4), 0);
        due("STATES", x.told(6), 0);
    }

    private static void fieldFull() {
        DrawnFields x = withFields(0, 1, 0, 2, 0, 3);
        due("the fourth", x.field(0, 4), 3);
        due("a fifth", x.field(0, 5), FULL);
        due("again", x.field(7, 7), FULL);
        counts(x, 0, 0, 2);
        due("back", x.back(), 3);
        due("room again", x.field(1, 2), 3);
    }

    private static void rangeHowMany() {
        DrawnFields x = withFields(0, 0, 2, 5);
        due("one", x.range(1, 7, 7), 1);
        due("one at 0", x.range(1, 0, 0), 1);
        due("all", x.range(1, 0, 7), 8);
        due("LOW", x.of(1, 0), 0);
        due("HIGH", x.of(1, 1), 7);
        due("the other FIELD", x.of(0, 1), 0);
        due("rows", x.rows(), 8);
    }

    private static void rangeWeightsStay() {
        DrawnFields x = withFields(0, 7);
        for (int v = 0; v < 8; v++) x.weighs(0, v, v + 2);
        x.range(0, 7, 7);
        due("of 7", x.heavy(NONE, 0), 9);
        x.range(0, 0, 0);
        due("of 0", x.heavy(NONE, 0), 2);
        x.range(0, 0, 7);
        for (int v = 0; v < 8; v++) due("of " + v, x.heavy(0, v), v + 2);
    }

    private static void rangeBad() {
        DrawnFields x = withFields(0, 3, 1, 2);
        badBeside("FIELD", 0, 1, n -> x.range(n, 0, 1));
        badBeside("LOW", 0, 7, n -> x.range(0, n, 7));
        badBeside("HIGH", 0, 7, n -> x.range(0, 0, n));
        due("HIGH below LOW", x.range(0, 4, 3), BAD);
        counts(x, 19, 0, 0);
        due("HIGH as it was", x.of(0, 1), 3);
        due("without FIELDS", new DrawnFields().range(0, 0, 1), BAD);
    }

    private static void weighsValue() {
        DrawnFields x = withFields(3, 4);
        due("of 0, below the RANGE", x.weighs(0, 0, 5), 1);
        due("of 7, above the RANGE", x.weighs(0, 7, 6), 1);
        due("of 0 it was", x.weighs(0, 0, 1), 5);
        due("of 7 it was", x.weighs(0, 7, 1), 6);
        badBeside("VALUE", 0, 7, n -> x.weighs(0, n, 1));
        counts(x, 6, 0, 0);
    }

    private static void weighsWeight() {
        DrawnFields x = withFields(0, 7, 0, 7);
        badBeside("WEIGHT", 0, 9, n -> x.weighs(0, 1, n));
        due("it is as it was", x.weighs(0, 1, 0), 1);
        due("0", x.weighs(0, 1, 9), 0);
        due("9", x.weighs(0, 1, 1), 9);
        due("of the other FIELD", x.weighs(1, 1, 1), 1);
        badBeside("FIELD", 0, 1, n -> x.weighs(n, 0, 1));
        counts(x, 12, 0, 0);
        due("without FIELDS", new DrawnFields().weighs(0, 0, 1), BAD);
    }

    private static void roundIs() {
        DrawnFields x = withFields(0, 3, 0, 3);
        badBeside("is", 0, 1, n -> x.round(0, n));
        badBeside("FIELD", 0, 1, n -> x.round(n, 1));
        counts(x, 12, 0, 0);
        due("not by refused ones", x.round(1, 0), 0);
        due("not yet", x.round(1, 1), 0);
        due("1", x.round(1, 1), 1);
        due("1 again", x.round(1, 0), 1);
        due("0", x.round(1, 0), 0);
        due("the other FIELD", x.of(0, 2), 0);
        due("without FIELDS", new DrawnFields().round(0, 1), BAD);
    }

    private static void roundTurn() {
        DrawnFields x = withFields(0, 7, 0, 7);
        x.round(0, 1);
        x.round(1, 1);
        x.draws(0, 0);
        x.draws(0, 0);
        due("two VALUES", x.of(0, 4), 3);
        x.round(0, 1);
        due("ROUND as it was: anew", x.of(0, 4), 0);
        due("the other turn goes on", x.of(1, 4), 3);
        due("NOW stays", x.of(0, 5), 1);
        x.draws(0, 0);
        due("the first again", x.of(0, 4), 1);
        x.round(0, 0);
        due("not ROUND: anew", x.of(0, 4), 0);
        x.draws(0, 0);
        due("no turn then", x.of(0, 4), 0);
    }

    private static void ordersPlaces() {
        DrawnFields x = withFields(0, 1, 0, 1, 0, 1, 0, 1);
        due("the first to the last place", x.orders(0, 3), 0);
        due("order 1230", order(x), 1230);
        due("the last to the first place", x.orders(0, 0), 3);
        due("order 0123", order(x), 123);
        due("one nearer", x.orders(2, 1), 2);
        due("order 0213", order(x), 213);
        due("one farther", x.orders(0, 1), 0);
        due("order 2013", order(x), 2013);
        due("where it is, last", x.orders(3, 3), 3);
        due("where it is, first", x.orders(2, 0), 0);
        due("order 2013", order(x), 2013);
    }

    private static int order(DrawnFields x) {
        int[] at = new int[4];
        for (int f = 0; f < 4; f++) at[x.of(f, 3)] = f;
        return at[0] * 1000 + at[1] * 100 + at[2] * 10 + at[3];
    }

    private static void ordersBad() {
        DrawnFields x = withFields(0, 1, 0, 1);
        badBeside("place", 0, 1, n -> x.orders(0, n));
        badBeside("FIELD", 0, 1, n -> x.orders(n, 0));
        counts(x, 12, 0, 0);
        due("as it was", x.of(1, 3), 1);
        x.field(0, 1);
        due("a third place", x.orders(0, 2), 0);
        due("without FIELDS", new DrawnFields().orders(0, 0), BAD);
    }

    private static void ruleBad() {
        DrawnFields x = withFields(0, 7, 0, 7);
        badBeside("KIND", 0, 5, n -> x.rule(n, 0, 1, 0, NONE));
        badBeside("x", 0, 1, n -> x.rule(2, n, 1, 0, NONE));
        badBeside("y", 0, 1, n -> x.rule(2, 0, n, 0, NONE));
        badBeside("RANK", -1, 9, n -> x.rule(2, 0, 1, 0, n));
        int[] most = {14, 0, 0, 255, 63, 7};
        for (int kind = 0; kind <= 5; kind++) {
            int k = kind;
            badBeside("c of KIND " + kind, 0, most[kind], n -> x.rule(k, 0, k == 3 ? 0 : 1, n, NONE));
        }
        counts(x, 60, 0, 0);
        due("RULES", x.told(5), 0);
        due("rows", x.rows(), 64);
    }

    private static void ruleFull() {
        DrawnFields x = withFields(0, 7);
        for (int k = 0; k < 8; k++) due("rule", x.rule(3, 0, 0, 255, k - 1), k);
        due("a ninth, HARD", x.rule(3, 0, 0, 0, NONE), FULL);
        due("a ninth, SOFT", x.rule(3, 0, 0, 0, 9), FULL);
        counts(x, 0, 0, 2);
        due("rows", x.rows(), 8);
        due("one goes", x.drops(7), 7);
        due("room again", x.rule(3, 0, 0, 1, NONE), 7);
        due("it counts", x.rows(), 1);
    }

    private static void dropsNearer() {
        for (int gone = 0; gone < 8; gone++) {
            DrawnFields x = withFields(0, 7);
            for (int k = 0; k < 8; k++) x.rule(3, 0, 0, 128 + k, k - 1);
            due("left", x.drops(gone), 7);
            for (int k = 0; k < 7; k++) {
                int was = k < gone ? k : k + 1;
                due("c of " + k + " without " + gone, x.about(k, 3), 128 + was);
                due("RANK of " + k + " without " + gone, x.about(k, 4), was - 1);
            }
            due("no eighth", x.about(7, 0), BAD);
        }
    }

    private static void dropsRows() {
        DrawnFields x = withFields(0, 7, 0, 7, 0, 7);
        x.rule(0, 0, 1, 0, NONE);
        x.rule(1, 2, 0, 0, NONE);
        due("no ROW keeps both", x.rows(), 0);
        due("left", x.drops(0), 1);
        due("KIND", x.about(0, 0), 1);
        due("x", x.about(0, 1), 2);
        due("y", x.about(0, 2), 0);
        due("rows that keep the one that came nearer", x.rows(), 28 * 8);
        due("the first of them", x.row(0, 0) * 100 + x.row(0, 1) * 10 + x.row(0, 2), 100);
        x.back();
        due("x of it ahead of the drop", x.about(0, 1), 0);
        due("y of it ahead of the drop", x.about(0, 2), 1);
        due("no ROW keeps both", x.rows(), 0);
        x.drops(1);
        due("the last goes", x.rows(), 8);
        x.rule(0, 2, 1, 14, NONE);
        due("another comes in its place", x.rows(), 0);
        x.drops(0);
        due("the other comes nearer", x.rows(), 8);
        due("its x", x.about(0, 1), 2);
        due("its y", x.about(0, 2), 1);
    }

    private static void dropsBad() {
        DrawnFields x = withFields(0, 7);
        badBeside("RULE of none", 0, -1, n -> x.drops(n));
        due("RULE 0 of none", x.drops(0), BAD);
        x.rule(3, 0, 0, 1, NONE);
        x.rule(3, 0, 0, 3, NONE);
        badBeside("RULE of two", 0, 1, n -> x.drops(n));
        counts(x, 13, 0, 0);
        due("left", x.drops(1), 1);
        due("left", x.drops(0), 0);
        due("none left", x.drops(0), BAD);
    }

    private static void ofNow() {
        DrawnFields x = withFields(0, 0, 7, 7);
        due("NONE, though one VALUE alone can be", x.of(0, 5), NONE);
        x.draws(1, 9);
        due("0 is not NONE", x.of(0, 5), 0);
        due("7", x.of(1, 5), 7);
        x.back();
        due("NONE again", x.of(1, 5), NONE);
    }

    private static void ofTurnBits() {
        DrawnFields x = withFields(0, 7);
        x.round(0, 1);
        due("none", x.of(0, 4), 0);
        for (int n = 0; n < 8; n++) x.draws(n % 2, 77 + n);
        due("all eight", x.of(0, 4), 255);
        x.draws(0, 0);
        due("anew", x.of(0, 4), 1);
    }

    private static void ofBad() {
        DrawnFields x = withFields(0, 7, 0, 7, 0, 7, 0, 7);
        badBeside("what", 0, 5, n -> x.of(0, n));
        badBeside("FIELD", 0, 3, n -> x.of(n, 0));
        counts(x, 12, 0, 0);
        due("without FIELDS", new DrawnFields().of(0, 0), BAD);
    }

    private static void aboutHardKept() {
        DrawnFields x = withFields(0, 7);
        x.rule(3, 0, 0, 1, NONE);
        x.rule(3, 0, 0, 2, NONE);
        x.rule(3, 0, 0, 3, 0);
        due("no ROW keeps both HARD ones, yet 1", x.about(0, 5), 1);
        due("the other, too", x.about(1, 5), 1);
        due("a SOFT one is not", x.about(2, 5), 0);
        due("RANK of a HARD one", x.about(0, 4), NONE);
        due("RANK 0", x.about(2, 4), 0);
        x.drops(1);
        due("a SOFT one is KEPT", x.about(1, 5), 1);
    }

    private static void aboutBad() {
        DrawnFields x = withFields(0, 7);
        due("without RULES", x.about(0, 0), BAD);
        for (int k = 0; k < 8; k++) x.rule(3, 0, 0, 1, NONE);
        badBeside("what", 0, 5, n -> x.about(7, n));
        badBeside("RULE", 0, 7, n -> x.about(n, 5));
        counts(x, 13, 0, 0);
    }

    // ---- 11 to 17: rows

    private static void rowsHowMany() {
        due("the empty one", new DrawnFields().rows(), 1);
        due("one", withFields(7, 7, 0, 0).rows(), 1);
        DrawnFields x = withFields(0, 7, 0, 7, 0, 7, 0, 7);
        due("most", x.rows(), 4096);
        x.rule(3, 3, 3, 0, NONE);
        due("none", x.rows(), 0);
    }

    private static void rowNotSoMany() {
        DrawnFields x = withFields(0, 7, 0, 7, 0, 7, 0, 7);
        due("the last", x.row(4095, 0) * 1000 + x.row(4095, 1) * 100 + x.row(4095, 2) * 10 + x.row(4095, 3), 7777);
        due("one beyond", x.row(4096, 0), NOT_SO_MANY);
        due("far beyond", x.row(MOST, 3), NOT_SO_MANY);
        x.rule(3, 2, 2, 2, NONE);
        due("the last by a RULE", x.row(511, 2), 1);
        due("one beyond", x.row(512, 2), NOT_SO_MANY);
        x.rule(3, 2, 2, 1, NONE);
        due("none is lawful", x.row(0, 0), NOT_SO_MANY);
        counts(x, 0, 0, 0);
    }

    private static void rowBad() {
        DrawnFields x = withFields(0, 7, 0, 7);
        due("i -1", x.row(-1, 0), BAD);
        due("i far below", x.row(LEAST, 0), BAD);
        badBeside("FIELD", 0, 1, n -> x.row(0, n));
        badBeside("FIELD, i too large", 0, 1, n -> x.row(MOST, n));
        counts(x, 14, 0, 0);
        due("without FIELDS", new DrawnFields().row(0, 0), BAD);
    }

    private static void heavyOfAll() {
        due("of the empty ROW", new DrawnFields().heavy(NONE, 0), 1);
        DrawnFields x = withFields(0, 7, 0, 7, 0, 7, 0, 7);
        for (int f = 0; f < 4; f++) for (int v = 0; v < 8; v++) x.weighs(f, v, 9);
        due("the most", x.heavy(NONE, 0), 72 * 72 * 72 * 72);
        due("of one VALUE", x.heavy(2, 0), 72 * 72 * 72 * 9);
        x.rule(3, 0, 0, 0, NONE);
        due("of no ROW", x.heavy(NONE, 0), 0);
        due("of no ROW with 3", x.heavy(0, 3), 0);
    }

    private static void heavyValue() {
        DrawnFields x = withFields(2, 3, 5, 6);
        due("of 0, below the RANGE", x.heavy(0, 0), 0);
        due("of 7, above the RANGE", x.heavy(0, 7), 0);
        due("of LOW", x.heavy(0, 2), 2);
        due("of HIGH", x.heavy(1, 6), 2);
        badBeside("VALUE", 0, 7, n -> x.heavy(0, n));
        badBeside("VALUE with NONE", 0, 0, n -> x.heavy(NONE, n));
        due("7 with NONE", x.heavy(NONE, 7), BAD);
        counts(x, 13, 0, 0);
    }

    private static void heavyField() {
        DrawnFields x = withFields(0, 7, 0, 7);
        badBeside("FIELD", -1, 1, n -> x.heavy(n, 0));
        counts(x, 6, 0, 0);
        due("without FIELDS", new DrawnFields().heavy(0, 0), BAD);
    }

    private static void sumsEdges() {
        DrawnFields x = withFields(0, 7, 0, 7, 0, 7, 0, 7);
        due("0", x.sums(0), 1);
        due("27", x.sums(27), 4);
        due("28", x.sums(28), 1);
        due("29", x.sums(29), 0);
        due("32", x.sums(32), 0);
        due("far above", x.sums(MOST), 0);
        due("of the empty ROW", new DrawnFields().sums(0), 1);
        due("of the empty ROW 1", new DrawnFields().sums(1), 0);
        x.rule(3, 0, 0, 0, NONE);
        due("of no ROW", x.sums(0), 0);
        counts(x, 0, 0, 0);
    }

    private static void sumsBad() {
        DrawnFields x = new DrawnFields();
        due("-1", x.sums(-1), BAD);
        due("far below", x.sums(LEAST), BAD);
        counts(x, 2, 0, 0);
    }

    private static void sumEdges() {
        DrawnFields x = withFields(0, 7, 0, 7, 0, 7, 0, 7);
        for (int i = 0; i < 29; i++) due("sum " + i, x.sum(i), i);
        due("29", x.sum(29), NOT_SO_MANY);
        due("far above", x.sum(MOST), NOT_SO_MANY);
        due("of the empty ROW", new DrawnFields().sum(0), 0);
        due("a second of the empty ROW", new DrawnFields().sum(1), NOT_SO_MANY);
        x.rule(3, 0, 0, 0, NONE);
        due("of no ROW", x.sum(0), NOT_SO_MANY);
        counts(x, 0, 0, 0);
        DrawnFields y = withFields(0, 7, 7, 7);
        y.rule(3, 0, 0, 129, NONE);
        due("of two unlike ones the least", y.sum(0), 7);
        due("and the next, far from it", y.sum(1), 14);
        due("no third", y.sum(2), NOT_SO_MANY);
    }

    private static void sumBad() {
        DrawnFields x = new DrawnFields();
        due("-1", x.sum(-1), BAD);
        due("far below", x.sum(LEAST), BAD);
        counts(x, 2, 0, 0);
    }

    private static void softEdges() {
        DrawnFields x = withFields(0, 7);
        due("without RULES", x.soft(0), NOT_SO_MANY);
        x.rule(3, 0, 0, 1, NONE);
        due("a HARD one is none", x.soft(0), NOT_SO_MANY);
        x.drops(0);
        for (int k = 0; k < 8; k++) x.rule(3, 0, 0, 0, k < 4 ? 9 - k : k % 2 * 9);
        int[] want = {4, 6, 3, 2, 1, 0, 5, 7};
        for (int i = 0; i < 8; i++) due("soft " + i, x.soft(i), want[i]);
        due("8", x.soft(8), NOT_SO_MANY);
        due("far above", x.soft(MOST), NOT_SO_MANY);
        counts(x, 0, 0, 0);
    }

    private static void softBad() {
        DrawnFields x = new DrawnFields();
        due("-1", x.soft(-1), BAD);
        due("far below", x.soft(LEAST), BAD);
        counts(x, 2, 0, 0);
    }

    private static void coreNone() {
        due("without FIELDS", new DrawnFields().core(), 0);
        DrawnFields x = withFields(0, 7, 0, 7);
        due("without RULES", x.core(), 0);
        x.rule(0, 0, 1, 14, NONE);
        due("one ROW alone keeps it", x.core(), 0);
        x.rule(3, 0, 0, 127, 0);
        due("a SOFT one that can not be KEPT", x.core(), 0);
        x.rule(3, 0, 0, 127, NONE);
        due("HARD, it can not be kept", x.core(), 5);
        x.rule(3, 0, 0, 255, 0);
        due("SOFT ones are not in it", x.core(), 5);
    }

    private static void coreOfMostRows() {
        DrawnFields x = withFields(0, 7, 0, 7, 0, 7, 0, 7);
        x.rule(0, 2, 3, 14, 5);
        x.rule(0, 2, 3, 0, 5);
        due("the first can be KEPT", x.about(0, 5), 1);
        due("the other not beside it", x.about(1, 5), 0);
        due("core", x.core(), 0);
        x.rule(1, 2, 3, 0, NONE);
        due("neither beside a HARD one", x.about(0, 5) + x.about(1, 5), 0);
        due("core", x.core(), 0);
        x.rule(1, 3, 2, 0, NONE);
        due("no ROW of 4096 keeps both", x.core(), 12);
        x.rule(3, 0, 0, 0, NONE);
        due("nor one alone", x.core(), 16);
    }

    private static void coreBits() {
        DrawnFields x = withFields(0, 7);
        for (int k = 0; k < 8; k++) x.rule(3, 0, 0, 255 & ~(1 << k), NONE);
        due("all eight are needed", x.core(), 255);
        x.range(0, 0, 6);
        due("without VALUE 7 the last is not", x.core(), 127);
        x.range(0, 7, 7);
        due("for VALUE 7 the last alone", x.core(), 128);
        x.drops(7);
        due("without it", x.core(), 0);
    }

    // ---- 18 and 19: draws

    private static void drawsBad() {
        DrawnFields x = withFields(0, 7);
        badBeside("how", 0, 1, n -> x.draws(n, 0));
        badBeside("SEED TOGETHER", 0, 999999, n -> x.draws(0, n));
        badBeside("SEED IN ORDER", 0, 999999, n -> x.draws(1, n));
        counts(x, 18, 0, 0);
        due("nothing was DRAWN", x.drawn(NONE, 0), 0);
        due("STATES", x.told(6), 1);
    }

    private static void drawsNo() {
        for (int how = 0; how <= 1; how++) {
            DrawnFields x = withFields(0, 7);
            x.rule(3, 0, 0, 0, NONE);
            due("there is none", x.draws(how, 1), NO);
            counts(x, 0, 1, 0);
            due("nothing was DRAWN", x.drawn(NONE, 0), 0);
            due("NOW", x.of(0, 5), NONE);
            due("STATES", x.told(6), 2);
            x.drops(0);
            x.rule(3, 0, 0, 0, 0);
            due("a SOFT one does not hinder", x.draws(how, 0), 0);
        }
    }

    private static void drawsNumber() {
        for (int how = 0; how <= 1; how++) {
            DrawnFields x = withFields(0, 7, 0, 7, 0, 7, 0, 7);
            x.rule(0, 0, 3, 7, NONE);
            x.rule(2, 1, 2, 0, NONE);
            for (int seed = 0; seed < 30; seed++) {
                int row = x.draws(how, seed * 33333);
                for (int f = 0; f < 4; f++) due("VALUE of ROW " + row, x.of(f, 5), x.row(row, f));
            }
            x.rule(3, 0, 0, 128, NONE);
            x.rule(3, 1, 1, 128, NONE);
            x.rule(3, 2, 2, 64, NONE);
            due("the only ROW is number 0", x.draws(how, 5), 0);
            due("its VALUES", x.of(0, 5) * 1000 + x.of(1, 5) * 100 + x.of(2, 5) * 10 + x.of(3, 5), 7760);
        }
        DrawnFields every = withFields(0, 7, 0, 7, 0, 7, 0, 7);
        every.rule(1, 1, 2, 0, NONE);
        every.rule(0, 3, 2, 7, NONE);
        for (int seed = 0; seed < 50; seed++) {
            int row = every.draws(seed % 2, seed);
            for (int f = 0; f < 4; f++) due("VALUE of ROW " + row, every.of(f, 5), every.row(row, f));
        }
        for (int v = 0; v < 8; v++) {
            DrawnFields x = withFields(0, 7);
            for (int other = 0; other < 8; other++) x.weighs(0, other, other == v ? 1 : 0);
            due("all WEIGHT at " + v + " TOGETHER", x.draws(0, 12345), v);
            due("all WEIGHT at " + v + " IN ORDER", x.draws(1, 12345), v);
        }
    }

    private static void drawnHowMany() {
        DrawnFields x = withFields(0, 7, 0, 7);
        due("none", x.drawn(NONE, 0), 0);
        badBeside("f with NONE", 0, 0, n -> x.drawn(NONE, n));
        counts(x, 6, 0, 0);
        due("without FIELDS", new DrawnFields().drawn(NONE, 0), 0);
    }

    private static void drawnNotSoMany() {
        due("of none", withFields(0, 7, 0, 7).drawn(0, 0), NOT_SO_MANY);
        DrawnFields x = withFields(0, 7, 0, 7);
        for (int n = 1; n <= 16; n++) {
            drawTheRow(x, n - 1);
            due("how many", x.drawn(NONE, 0), n);
            due("the last", x.drawn(n - 1, 0) * 8 + x.drawn(n - 1, 1), n - 1);
            due("one beyond", x.drawn(n, 0), NOT_SO_MANY);
        }
        drawTheRow(x, 16);
        due("16 at most", x.drawn(NONE, 0), 16);
        due("NOW is beyond", x.of(0, 5) * 8 + x.of(1, 5), 16);
        due("one beyond", x.drawn(16, 0), NOT_SO_MANY);
        due("far beyond", x.drawn(MOST, 0), NOT_SO_MANY);
        counts(x, 0, 0, 0);
    }

    /** Makes row n the only one that has a WEIGHT, so that it must be drawn. */
    private static void drawTheRow(DrawnFields x, int n) {
        for (int v = 0; v < 8; v++) {
            x.weighs(0, v, v == n / 8 ? 1 : 0);
            x.weighs(1, v, v == n % 8 ? 1 : 0);
        }
        x.draws(0, n);
    }

    private static void drawnBad() {
        DrawnFields x = withFields(0, 7, 0, 7);
        x.draws(0, 0);
        due("i -2", x.drawn(-2, 0), BAD);
        due("i far below", x.drawn(LEAST, 0), BAD);
        badBeside("FIELD", 0, 1, n -> x.drawn(0, n));
        badBeside("FIELD, not so many", 0, 1, n -> x.drawn(5, n));
        counts(x, 14, 0, 0);
        DrawnFields y = new DrawnFields();
        y.draws(0, 0);
        due("of the empty ROW", y.drawn(0, 0), BAD);
    }

    // ---- 20 to 25: texts

    private static void typeBytes() {
        DrawnFields x = new DrawnFields();
        badBeside("byte", 0, 127, n -> x.type(n));
        counts(x, 6, 0, 0);
        due("0", x.type(0), 1);
        due("127", x.type(127), 2);
        due("a byte 0 is a FAULT", x.reads(), -10);
    }

    private static void typeFull() {
        DrawnFields x = new DrawnFields();
        for (int n = 1; n <= 150; n++) due("byte " + n, x.type(' '), n);
        due("151", x.type(' '), FULL);
        due("again", x.type(0), FULL);
        counts(x, 0, 0, 2);
        due("bytes", x.told(3), 150);
        x.clear();
        due("room again", x.type(' '), 1);
    }

    private static void clearEmpty() {
        DrawnFields x = new DrawnFields();
        due("empty", x.clear(), 0);
        for (int n = 0; n < 150; n++) x.type(';');
        due("full", x.clear(), 150);
        due("empty again", x.clear(), 0);
        due("a FAULT of an empty one", x.reads(), -10);
        counts(x, 0, 0, 0);
        due("STATES", x.told(6), 0);
    }

    private static void readsStays() {
        DrawnFields x = new DrawnFields();
        due("one", reads(x, "f0 3;"), 1);
        due("bytes", x.told(3), 5);
        for (int f = 1; f < 4; f++) due("again", x.reads(), 1);
        due("passed over when FULL", x.reads(), 0);
        due("FIELDS", x.told(4), 4);
        due("bytes", x.told(3), 5);
        counts(x, 0, 0, 0);
        due("more comes behind it", x.type('q'), 6);
        due("a FAULT", x.reads(), -15);
        due("it stays then, too", x.told(3), 6);
    }

    private static void readsOneState() {
        DrawnFields x = new DrawnFields();
        due("seven", reads(x, "f0 3;f0 3;w0 0 5;r0;h2 0 1 0;d1;o2;"), 7);
        due("one STATE", x.told(6), 1);
        due("back over all", x.back(), 0);
        due("FIELDS", x.told(4), 0);
        due("RULES", x.told(5), 0);
        due("none is left", x.back(), NO);
        due("all passed over", reads(x, "r0;x0;"), 0);
        due("a STATE", x.told(6), 1);
        due("a FAULT", reads(x, "r0;x0"), -15);
        due("none by it", x.told(6), 1);
    }

    private static void readsFault() {
        DrawnFields x = new DrawnFields();
        due("at 0", reads(x, "!"), -10);
        due("at 1", reads(x, "d!"), -11);
        StringBuilder t = new StringBuilder();
        for (int n = 0; n < 50; n++) t.append("d1;");
        t.setCharAt(149, '!');
        due("at the last byte", reads(x, t.toString()), -159);
        t.setCharAt(149, '1');
        due("at the end of 150", reads(x, t.toString()), -160);
        counts(x, 0, 0, 0);
        due("nothing was DRAWN", x.drawn(NONE, 0), 0);
    }

    private static void readsOrdersAsCalls() {
        DrawnFields x = new DrawnFields();
        reads(x, "f1 6;f2 7;h4 1 0 63;s9 5 0 1 3;w1 7 0;r1;d999999;o0;");
        DrawnFields y = withFields(1, 6, 2, 7);
        y.rule(4, 1, 0, 63, NONE);
        y.rule(5, 0, 1, 3, 9);
        y.weighs(1, 7, 0);
        y.round(1, 1);
        y.draws(0, 999999);
        y.draws(1, 0);
        for (int f = 0; f < 2; f++) for (int what = 0; what < 6; what++) due("of", x.of(f, what), y.of(f, what));
        for (int k = 0; k < 2; k++) for (int what = 0; what < 6; what++) due("about", x.about(k, what), y.about(k, what));
        due("rows", x.rows(), y.rows());
        due("heavy", x.heavy(NONE, 0), y.heavy(NONE, 0));
        due("drawn", x.drawn(NONE, 0), y.drawn(NONE, 0));
        due("r begins a turn anew", reads(x, "r1;"), 1);
        due("its turn", x.of(1, 4), 0);
        due("x", reads(x, "x0;"), 1);
        due("one nearer", x.about(0, 0), 5);
    }

    private static void backNone() {
        DrawnFields x = new DrawnFields();
        due("of a new object", x.back(), NO);
        due("again", x.back(), NO);
        counts(x, 0, 2, 0);
        x.field(0, 1);
        due("one", x.back(), 0);
        due("none yet", x.back(), NO);
        x.field(1, 0);
        due("a refused call leaves none", x.back(), NO);
        x.rows();
        x.type('d');
        due("a question and a byte leave none", x.back(), NO);
    }

    private static void backHowMany() {
        DrawnFields x = withFields(0, 1, 0, 2, 0, 3, 0, 4);
        for (int left = 3; left >= 0; left--) {
            due("back", x.back(), left);
            due("FIELDS", x.told(4), left);
            due("STATES", x.told(6), left);
        }
        due("no more", x.back(), NO);
        DrawnFields y = withFields(0, 1, 0, 2, 0, 3, 0, 4);
        y.orders(0, 3);
        for (int left = 3; left >= 0; left--) due("back", y.back(), left);
        due("older ones are lost", y.back(), NO);
        due("the first FIELD stays", y.told(4), 1);
    }

    private static void backBringsAll() {
        DrawnFields x = new DrawnFields();
        reads(x, "f0 3;f1 4;h2 0 1 0;s3 5 0 1 1;w0 1 9;r0;r1;d12;o34;");
        x.orders(1, 0);
        x.clear();
        long before = x.digest();
        int rows = x.rows();
        int lastRow = x.row(rows - 1, 1);
        x.range(1, 0, 7);
        x.drops(0);
        due("other rows", x.rows() == rows ? 1 : 0, 0);
        x.back();
        due("rows without the step yet", x.rows() == rows ? 1 : 0, 0);
        due("back", x.back(), 2);
        due("all", x.digest(), before);
        due("rows", x.rows(), rows);
        due("the last", x.row(rows - 1, 1), lastRow);
        int next = x.draws(1, 5);
        x.back();
        due("the same draw again", x.draws(1, 5), next);
    }

    private static void toldAll() {
        DrawnFields x = withFields(0, 1, 0, 1, 0, 1, 0, 1);
        for (int k = 0; k < 8; k++) x.rule(3, 0, 0, 0, NONE);
        for (int n = 0; n < 150; n++) x.type('d');
        for (int n = 0; n < 5; n++) x.sums(-1);
        for (int n = 0; n < 6; n++) x.draws(0, 0);
        for (int n = 0; n < 7; n++) x.type('d');
        int[] want = {5, 6, 7, 150, 4, 8, 4};
        for (int what = 0; what <= 6; what++) due("told " + what, x.told(what), want[what]);
    }

    private static void toldBad() {
        DrawnFields x = new DrawnFields();
        badBeside("what", 0, 6, n -> x.told(n));
        counts(x, 6, 0, 0);
    }

    private static void digestOfAll() {
        DrawnFields x = withFields(0, 1);
        x.round(0, 1);
        x.weighs(0, 7, 0);
        x.draws(0, 0);
        x.draws(0, 0);
        due("two ROWS", x.digest(), hash(0, 0, 0, 0, 1, 0, 4, 0, 1, 1, 0, 3, 1, 1, 1, 1, 1, 1, 1, 1, 0, 2, 2, 0, 2, 0, 1));
        x.rule(3, 0, 0, 0, NONE);
        x.draws(0, 0);
        due("no ROW", x.digest(), hash(0, 1, 0, 0, 1, 1, 4, 0, 1, 1, 0, 0, NONE, 1, 1, 1, 1, 1, 1, 1, 0,
            3, 0, 0, 0, NONE, 1, 0, 0, 1, 0));
        DrawnFields y = new DrawnFields();
        y.draws(1, 1);
        due("the empty ROW has no VALUES", y.digest(), hash(0, 0, 0, 0, 0, 0, 1, 1, 1, 0, 1));
    }

    private static void digestOfFull() {
        DrawnFields x = withFields(0, 7, 0, 7, 0, 7, 0, 7);
        for (int k = 0; k < 8; k++) x.rule(5, k % 4, (k + 1) % 4, 0, k);
        for (int n = 0; n < 40; n++) x.draws(n % 2, n * 555);
        for (int n = 0; n < 151; n++) x.type(n % 128);
        x.told(7);
        long h = 2423;
        for (int what = 0; what <= 6; what++) h = 31 * h + x.told(what);
        for (int f = 0; f < 4; f++) {
            for (int what = 0; what <= 5; what++) h = 31 * h + x.of(f, what);
            for (int v = 0; v < 8; v++) h = 31 * h + 1;
        }
        for (int k = 0; k < 8; k++) for (int what = 0; what <= 5; what++) h = 31 * h + x.about(k, what);
        h = 31 * (31 * (31 * (31 * h + 4096) + 4096) + 0) + 16;
        for (int i = 0; i < 16; i++) for (int f = 0; f < 4; f++) h = 31 * h + x.drawn(i, f);
        due("digest", x.digest(), h);
        due("once more", x.digest(), h);
    }

    public static void main(String[] args) {
        test("1: As told; no FIELDS", PromiseEdgeTests::newObject);
        test("1: A new object", PromiseEdgeTests::objectsApart);
        test("2: BAD: HIGH below LOW, too", PromiseEdgeTests::fieldHighBelowLow);
        test("2: BAD", PromiseEdgeTests::fieldBad);
        test("2: FULL: 4", PromiseEdgeTests::fieldFull);
        test("3: VALUES become low to high: how many they are", PromiseEdgeTests::rangeHowMany);
        test("3: (WEIGHTS of 0 .. 7 stay)", PromiseEdgeTests::rangeWeightsStay);
        test("3: BAD", PromiseEdgeTests::rangeBad);
        test("4: VALUE v (0 .. 7) of a FIELD", PromiseEdgeTests::weighsValue);
        test("4: BAD", PromiseEdgeTests::weighsWeight);
        test("5: ROUND (1) or not (0)", PromiseEdgeTests::roundIs);
        test("5: its turn begins anew", PromiseEdgeTests::roundTurn);
        test("6: FIELD f comes to place p of it, the others as they were", PromiseEdgeTests::ordersPlaces);
        test("6: BAD", PromiseEdgeTests::ordersBad);
        test("7: BAD", PromiseEdgeTests::ruleBad);
        test("7: FULL: 8", PromiseEdgeTests::ruleFull);
        test("8: (those behind it are one nearer)", PromiseEdgeTests::dropsNearer);
        test("8: A RULE goes: how many are left", PromiseEdgeTests::dropsRows);
        test("8: BAD", PromiseEdgeTests::dropsBad);
        test("9: its VALUE in NOW (5; NONE)", PromiseEdgeTests::ofNow);
        test("9: VALUES DRAWN in its turn (4, bits)", PromiseEdgeTests::ofTurnBits);
        test("9: BAD", PromiseEdgeTests::ofBad);
        test("10: whether it is KEPT (5: 1, 0; a HARD one 1)", PromiseEdgeTests::aboutHardKept);
        test("10: BAD", PromiseEdgeTests::aboutBad);
        test("11: LAWFUL ROWS: how many", PromiseEdgeTests::rowsHowMany);
        test("12: -5: not so many", PromiseEdgeTests::rowNotSoMany);
        test("12: BAD: i below 0, too", PromiseEdgeTests::rowBad);
        test("13: WEIGHTS of all LAWFUL ROWS together", PromiseEdgeTests::heavyOfAll);
        test("13: BAD: v 0 .. 7 (f NONE: 0)", PromiseEdgeTests::heavyValue);
        test("13: BAD: f", PromiseEdgeTests::heavyField);
        test("14: How many LAWFUL ROWS have VALUES that are s together", PromiseEdgeTests::sumsEdges);
        test("14: BAD: s below 0", PromiseEdgeTests::sumsBad);
        test("15: -5: not so many", PromiseEdgeTests::sumEdges);
        test("15: BAD: i below 0", PromiseEdgeTests::sumBad);
        test("16: -5: not so many", PromiseEdgeTests::softEdges);
        test("16: BAD: i below 0", PromiseEdgeTests::softBad);
        test("17: 0: some ROW keeps all HARD ones", PromiseEdgeTests::coreNone);
        test("17: of 4096 ROWS", PromiseEdgeTests::coreOfMostRows);
        test("17: CORE, as bits of RULES", PromiseEdgeTests::coreBits);
        test("18: BAD", PromiseEdgeTests::drawsBad);
        test("18: NO: there is none", PromiseEdgeTests::drawsNo);
        test("18: the number, in order, of the ROW among LAWFUL ROWS", PromiseEdgeTests::drawsNumber);
        test("19: how many (i NONE; f 0)", PromiseEdgeTests::drawnHowMany);
        test("19: -5: not so many", PromiseEdgeTests::drawnNotSoMany);
        test("19: BAD: i below -1, too", PromiseEdgeTests::drawnBad);
        test("20: A byte (0 .. 127)", PromiseEdgeTests::typeBytes);
        test("20: FULL: 150", PromiseEdgeTests::typeFull);
        test("21: THE TEXT is empty: how many it had", PromiseEdgeTests::clearEmpty);
        test("22: What THE TEXT tells is done (it stays)", PromiseEdgeTests::readsStays);
        test("22: S (one STATE for all)", PromiseEdgeTests::readsOneState);
        test("22: -10 less the FAULT", PromiseEdgeTests::readsFault);
        test("22: what its orders do is what the calls do", PromiseEdgeTests::readsOrdersAsCalls);
        test("23: NO: none", PromiseEdgeTests::backNone);
        test("23: how many can be yet", PromiseEdgeTests::backHowMany);
        test("23: A STATE back", PromiseEdgeTests::backBringsAll);
        test("24: How often refused; bytes of THE TEXT, FIELDS, RULES, STATES", PromiseEdgeTests::toldAll);
        test("24: BAD", PromiseEdgeTests::toldBad);
        test("25: h = 31 h + v for each v", PromiseEdgeTests::digestOfAll);
        test("25: of an object that is full", PromiseEdgeTests::digestOfFull);
        System.out.println(looked + " answers of the promises looked at, " + wrong + " not as due");
        if (wrong != 0) System.exit(1);
    }
}
