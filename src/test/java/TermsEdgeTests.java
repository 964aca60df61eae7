import java.math.BigInteger;
import java.util.ArrayList;
import java.util.LinkedHashSet;
import java.util.List;
import java.util.function.Supplier;
import java.util.function.ToIntFunction;

/** The boundary cases that "What it is" and "Terms" name: a test of its own for each sentence. */
public final class TermsEdgeTests {
    private static final int LEAST = Integer.MIN_VALUE;
    private static final int MOST = Integer.MAX_VALUE;
    private static final int HARD = DrawnFields.NONE;
    private static final String LETTERS = "fhswrxdo";
    private static final int[] NUMBERS_OF = {2, 4, 5, 3, 1, 1, 1, 1};
    /** Something of all kinds, told in one text so that it leaves one STATE alone. */
    private static final String RICH = "f0 3;f1 4;f2 2;h2 0 1 0;s3 5 1 2 1;s1 3 0 0 7;w0 1 9;w1 2 0;r0;r1;d12;o34;";

    private static int wrong = 0;
    private static int looked = 0;
    private static String sentence = "";

    private static void test(String words, Runnable body) {
        sentence = words;
        int before = looked;
        body.run();
        if (looked == before) {
            wrong++;
            System.out.println("\"" + sentence + "\": nothing was looked at");
        }
    }

    private static void due(String what, long got, long want) {
        looked++;
        if (got != want) {
            wrong++;
            System.out.println("\"" + sentence + "\": " + what + " answered " + got + ", due is " + want);
        }
    }

    private static DrawnFields withFields(int... ranges) {
        DrawnFields x = new DrawnFields();
        for (int i = 0; i + 1 < ranges.length; i += 2) x.field(ranges[i], ranges[i + 1]);
        return x;
    }

    private static void types(DrawnFields x, String text) {
        for (int i = 0; i < text.length(); i++) x.type(text.charAt(i));
    }

    private static int reads(DrawnFields x, String text) {
        x.clear();
        types(x, text);
        return x.reads();
    }

    private static DrawnFields rich() {
        DrawnFields x = new DrawnFields();
        reads(x, RICH);
        x.clear();
        return x;
    }

    /** The digest as if nothing had been refused. */
    private static long digestWithoutRefusals(DrawnFields x) {
        int unlike = x.drawn(-1, 0);
        long behind = 4 + 14L * x.told(4) + 6L * x.told(5) + 4 + (long) unlike * x.told(4);
        BigInteger h = BigInteger.valueOf(x.digest());
        for (int what = 0; what <= 2; what++) {
            BigInteger power = BigInteger.valueOf(31).pow((int) (behind + 2 - what));
            h = h.subtract(power.multiply(BigInteger.valueOf(x.told(what))));
        }
        return h.longValue();
    }

    private static long next(long x) {
        BigInteger room = BigInteger.valueOf(2147483648L);
        return BigInteger.valueOf(x).multiply(BigInteger.valueOf(1103515245L)).add(BigInteger.valueOf(12345L))
            .mod(room).longValue();
    }

    /** The place that the document's v falls to. */
    private static int pick(long x, int... weights) {
        int together = 0;
        for (int w : weights) together += w;
        long v = x / 65536 % (together == 0 ? weights.length : together);
        long ahead = 0;
        for (int i = 0; i < weights.length; i++) {
            ahead += together == 0 ? 1 : weights[i];
            if (ahead > v) return i;
        }
        return -1;
    }

    private static int now(DrawnFields x) {
        int digits = 0;
        for (int f = 0; f < x.told(4); f++) digits = digits * 10 + x.of(f, 5);
        return digits;
    }

    // ---- what it is

    private static void calls512() {
        DrawnFields x = new DrawnFields();
        for (int n = 1; n < 512; n++) x.told(7);
        due("the 512th call", x.told(0), 511);
        x = withFields(0, 7);
        for (int n = 2; n < 512; n++) due("draw " + n, x.draws(n % 2, n), pick(next(n), 1, 1, 1, 1, 1, 1, 1, 1));
        due("the 512th call", x.told(6), 4);
    }

    // ---- fields

    private static void fieldNumbers() {
        DrawnFields x = new DrawnFields();
        for (int f = 0; f < 4; f++) {
            due("FIELD " + f + " has not come", x.of(f, 0), -2);
            due("field", x.field(f, f), f);
            due("its LOW", x.of(f, 0), f);
        }
        due("no FIELD 4", x.of(4, 0), -2);
        due("a fifth", x.field(0, 0), -4);
        due("FIELDS", x.told(4), 4);
        due("the last is as it was", x.of(3, 0), 3);
    }

    private static void values() {
        DrawnFields x = new DrawnFields();
        due("LOW -1", x.field(-1, 7), -2);
        due("HIGH 8", x.field(0, 8), -2);
        due("both 8", x.field(8, 8), -2);
        due("both -1", x.field(-1, -1), -2);
        due("LOW far below", x.field(LEAST, 7), -2);
        due("HIGH far above", x.field(0, MOST), -2);
        due("FIELDS yet", x.told(4), 0);
        due("0 to 7", x.field(0, 7), 0);
        due("0 to 0", x.field(0, 0), 1);
        due("7 to 7", x.field(7, 7), 2);
        due("rows", x.rows(), 8);
        due("the last", x.row(7, 0) * 100 + x.row(7, 1) * 10 + x.row(7, 2), 707);
    }

    private static void weights() {
        DrawnFields x = withFields(0, 7, 3, 4);
        due("-1", x.weighs(0, 0, -1), -2);
        due("10", x.weighs(0, 0, 10), -2);
        due("far off", x.weighs(0, 0, MOST), -2);
        for (int f = 0; f < 2; f++) {
            for (int v = 0; v < 8; v++) {
                due("at first", x.weighs(f, v, 0), 1);
                due("0", x.weighs(f, v, 9), 0);
                due("9", x.weighs(f, v, 9), 9);
            }
        }
        due("heavy", x.heavy(-1, 0), 8 * 2 * 81);
    }

    private static void notRoundAtFirst() {
        DrawnFields x = withFields(0, 3, 0, 3);
        x.round(0, 1);
        due("another FIELD", x.of(1, 2), 0);
        x.field(1, 1);
        due("a new FIELD", x.of(2, 2), 0);
        x.round(2, 1);
        x.back();
        x.back();
        x.field(2, 2);
        due("one that comes where another went", x.of(2, 2), 0);
    }

    // ---- rules

    private static void ruleNumbers() {
        DrawnFields x = withFields(0, 7);
        for (int k = 0; k < 8; k++) {
            due("RULE " + k + " has not come", x.about(k, 0), -2);
            due("rule", x.rule(3, 0, 0, 255 - k, k % 2 - 1), k);
            due("its c", x.about(k, 3), 255 - k);
        }
        due("no RULE 8", x.about(8, 0), -2);
        due("a ninth", x.rule(3, 0, 0, 1, HARD), -4);
        due("RULES", x.told(5), 8);
        due("the last is as it was", x.about(7, 3), 248);
    }

    private static void kinds() {
        for (int kind = 0; kind <= 5; kind++) {
            DrawnFields x = withFields(0, 7, 0, 7);
            due("KIND " + kind, x.rule(kind, 0, kind == 3 ? 0 : 1, 0, HARD), 0);
            due("about", x.about(0, 0), kind);
        }
        DrawnFields x = withFields(0, 7, 0, 7);
        for (int y = 0; y <= 1; y++) {
            due("KIND -1", x.rule(-1, 0, y, 0, HARD), -2);
            due("KIND 6", x.rule(6, 0, y, 0, HARD), -2);
            due("far below", x.rule(LEAST, 0, y, 0, HARD), -2);
            due("far above", x.rule(MOST, 0, y, 0, HARD), -2);
        }
    }

    private static int rowsUnder(int kind, int x, int y, int c) {
        DrawnFields d = withFields(0, 7, 0, 7);
        d.rule(kind, x, y, c, HARD);
        return d.rows();
    }

    private static void edgesOfC(int kind, int y, int most) {
        DrawnFields x = withFields(0, 7, 0, 7);
        due("c -1", x.rule(kind, 0, y, -1, HARD), -2);
        due("c too large", x.rule(kind, 0, y, most + 1, HARD), -2);
        due("c far below", x.rule(kind, 0, y, LEAST, HARD), -2);
        due("c far above", x.rule(kind, 0, y, MOST, HARD), -2);
        due("c too large, SOFT", x.rule(kind, 0, y, most + 1, 0), -2);
        due("c 0", x.rule(kind, 0, y, 0, HARD), 0);
        due("c the largest", x.rule(kind, 0, y, most, HARD), 1);
    }

    private static void sumRule() {
        edgesOfC(0, 1, 14);
        due("together 0", rowsUnder(0, 0, 1, 0), 1);
        due("together 7", rowsUnder(0, 0, 1, 7), 8);
        due("together 8", rowsUnder(0, 0, 1, 8), 7);
        due("together 14", rowsUnder(0, 1, 0, 14), 1);
    }

    private static void lessRule() {
        edgesOfC(1, 1, 0);
        DrawnFields x = withFields(3, 4, 3, 4);
        x.rule(1, 0, 1, 0, HARD);
        due("like ones are not less", x.rows(), 1);
        due("x", x.row(0, 0), 3);
        due("y", x.row(0, 1), 4);
    }

    private static void unlikeRule() {
        edgesOfC(2, 1, 0);
        DrawnFields x = withFields(3, 3, 3, 4);
        x.rule(2, 1, 0, 0, HARD);
        due("rows", x.rows(), 1);
        due("y", x.row(0, 1), 4);
        x.range(1, 3, 3);
        due("one VALUE for both", x.rows(), 0);
    }

    private static void oneOfRule() {
        edgesOfC(3, 0, 255);
        due("of none", rowsUnder(3, 0, 0, 0), 0);
        due("of the least", rowsUnder(3, 1, 1, 1), 8);
        due("of the largest", rowsUnder(3, 1, 1, 128), 8);
        due("of all", rowsUnder(3, 1, 1, 255), 64);
        DrawnFields x = withFields(0, 7, 0, 7);
        due("y is not x", x.rule(3, 0, 1, 1, HARD), -2);
        due("y is not x", x.rule(3, 1, 0, 1, HARD), -2);
        x.rule(3, 1, 1, 128, HARD);
        due("VALUE", x.row(0, 1), 7);
        due("of VALUES beyond the RANGE", withRule(withFields(0, 3), 3, 0, 0, 240).rows(), 0);
    }

    private static DrawnFields withRule(DrawnFields x, int kind, int a, int b, int c) {
        x.rule(kind, a, b, c, HARD);
        return x;
    }

    private static void ifRule() {
        edgesOfC(4, 1, 63);
        due("if 0 then 0", rowsUnder(4, 0, 1, 0), 57);
        due("if 7 then 7", rowsUnder(4, 0, 1, 63), 57);
        DrawnFields x = withRule(withFields(0, 7, 0, 7), 4, 0, 1, 7);
        due("if 0 then 7: the first", x.row(0, 1), 7);
        due("any if not 0", x.row(1, 1), 0);
        x = withRule(withFields(0, 7, 0, 7), 4, 0, 1, 56);
        due("if 7 then 0: the last", x.row(56, 1), 0);
        due("rows", x.rows(), 57);
        due("x is never so: any", withRule(withFields(0, 3, 1, 2), 4, 0, 1, 32).rows(), 8);
        due("x is so, y never", withRule(withFields(4, 4, 1, 2), 4, 0, 1, 32).rows(), 0);
    }

    private static void apartRule() {
        edgesOfC(5, 1, 7);
        due("0 or more", rowsUnder(5, 0, 1, 0), 64);
        due("1 or more", rowsUnder(5, 0, 1, 1), 56);
        due("7 or more", rowsUnder(5, 0, 1, 7), 2);
        due("just so far", withRule(withFields(2, 2, 5, 5), 5, 0, 1, 3).rows(), 1);
        due("the other way", withRule(withFields(5, 5, 2, 2), 5, 0, 1, 3).rows(), 1);
        due("one too near", withRule(withFields(2, 2, 5, 5), 5, 0, 1, 4).rows(), 0);
        due("one too near, the other way", withRule(withFields(5, 5, 2, 2), 5, 0, 1, 4).rows(), 0);
    }

    private static void unlikeFields() {
        DrawnFields x = withFields(0, 7, 0, 7);
        for (int kind = 0; kind <= 5; kind++) {
            for (int f = 0; f <= 1; f++) {
                due("KIND " + kind + " of like FIELDS", x.rule(kind, f, f, 0, HARD), kind == 3 ? f : -2);
            }
            due("x -1", x.rule(kind, -1, kind == 3 ? -1 : 1, 0, HARD), -2);
            due("x 2", x.rule(kind, 2, kind == 3 ? 2 : 1, 0, HARD), -2);
            due("y -1", x.rule(kind, 0, -1, 0, HARD), -2);
            due("y 2", x.rule(kind, 0, 2, 0, HARD), -2);
            due("far below", x.rule(kind, LEAST, LEAST, 0, HARD), -2);
            due("far above", x.rule(kind, MOST, MOST, 0, HARD), -2);
        }
        due("without FIELDS", new DrawnFields().rule(3, 0, 0, 1, HARD), -2);
    }

    private static void ranks() {
        DrawnFields x = withFields(0, 7);
        due("RANK -2", x.rule(3, 0, 0, 1, -2), -2);
        due("RANK 10", x.rule(3, 0, 0, 1, 10), -2);
        due("RANK far below", x.rule(3, 0, 0, 1, LEAST), -2);
        due("RANK far above", x.rule(3, 0, 0, 1, MOST), -2);
        due("HARD", x.rule(3, 0, 0, 1, HARD), 0);
        due("RANK 0", x.rule(3, 0, 0, 2, 0), 1);
        due("RANK 9", x.rule(3, 0, 0, 1, 9), 2);
        due("of a HARD one", x.about(0, 4), -1);
        due("the least", x.about(1, 4), 0);
        due("the largest", x.about(2, 4), 9);
        due("the least is looked at first", x.soft(0), 1);
        due("the largest is looked at, too", x.soft(1), 2);
        due("and KEPT", x.about(2, 5), 1);
    }

    // ---- rows

    private static void keptInOrder() {
        DrawnFields x = withFields(0, 3);
        x.rule(3, 0, 0, 1, 5);
        x.rule(3, 0, 0, 2, 5);
        x.rule(3, 0, 0, 4, 4);
        due("the least RANK is KEPT", x.about(2, 5), 1);
        due("so the first is not", x.about(0, 5), 0);
        due("nor the second", x.about(1, 5), 0);
        due("VALUE", x.row(0, 0), 2);
        x.drops(2);
        due("of like ones the least number is KEPT", x.about(0, 5), 1);
        due("the other is not", x.about(1, 5), 0);
        x.rule(3, 0, 0, 9, 9);
        due("one behind those that are not KEPT", x.about(2, 5), 1);
        x.rule(3, 0, 0, 8, HARD);
        due("HARD goes ahead of all", x.about(0, 5), 0);
        due("what goes with it is KEPT", x.about(2, 5), 1);
    }

    private static void keptOfNone() {
        DrawnFields x = withFields(0, 3);
        x.rule(3, 0, 0, 15, 0);
        due("KEPT by all ROWS", x.about(0, 5), 1);
        x.rule(3, 0, 0, 0, HARD);
        due("no ROW keeps the HARD one", x.about(0, 5), 0);
        due("rows", x.rows(), 0);
        due("the HARD one itself", x.about(1, 5), 1);
        x.drops(1);
        due("KEPT again", x.about(0, 5), 1);
        due("a SOFT one that no ROW keeps", x.rule(3, 0, 0, 0, 0), 1);
        due("is not KEPT", x.about(1, 5), 0);
        due("and takes no ROW", x.rows(), 4);
    }

    private static void emptyRow() {
        DrawnFields x = new DrawnFields();
        due("rows", x.rows(), 1);
        due("sums(0)", x.sums(0), 1);
        due("TOGETHER", x.draws(0, 999999), 0);
        due("IN ORDER", x.draws(1, 999999), 0);
        due("it was DRAWN, once as rows go", x.drawn(-1, 0), 1);
        due("core", x.core(), 0);
        x.field(0, 3);
        due("rows with a FIELD", x.rows(), 4);
        x.back();
        due("rows without it", x.rows(), 1);
    }

    private static void rowsInOrder() {
        DrawnFields x = withFields(0, 1, 6, 7, 0, 1, 6, 7);
        for (int i = 0; i < 16; i++) {
            int bits = 0;
            for (int f = 0; f < 4; f++) bits = bits * 2 + x.row(i, f) % 2;
            due("row " + i + ", its even and odd VALUES as bits", bits, i);
        }
        due("no row 16", x.row(16, 0), -5);
        x.orders(3, 0);
        due("ORDER does not matter", x.row(1, 3), 7);
    }

    private static void rowWeight() {
        due("of the empty one", new DrawnFields().heavy(-1, 0), 1);
        DrawnFields x = withFields(7, 7, 0, 0, 7, 7, 0, 0);
        for (int f = 0; f < 4; f++) x.weighs(f, f % 2 == 0 ? 7 : 0, 9);
        due("the heaviest", x.heavy(-1, 0), 6561);
        x.weighs(2, 7, 0);
        due("one WEIGHT of 0", x.heavy(-1, 0), 0);
        x.weighs(2, 7, 2);
        due("the product", x.heavy(-1, 0), 1458);
    }

    private static void coreWords() {
        DrawnFields x = withFields(0, 7, 0, 7);
        due("without RULES", x.core(), 0);
        x.rule(3, 0, 0, 0, 0);
        due("a SOFT one that no ROW keeps", x.core(), 0);
        x.rule(1, 0, 1, 0, HARD);
        x.rule(1, 1, 0, 0, HARD);
        due("two that can not be kept", x.core(), 6);
        x.rule(2, 0, 1, 0, HARD);
        due("one that has nothing to do with it is left out", x.core(), 6);
        x.rule(1, 0, 1, 0, HARD);
        due("of two like ones that of the least number is left out", x.core(), 20);
        x.rule(0, 0, 1, 0, HARD);
        x.rule(0, 0, 1, 14, HARD);
        due("the last ones stay", x.core(), 96);
        x.rule(3, 1, 1, 0, HARD);
        due("one alone, the eighth", x.core(), 128);
        x.drops(7);
        due("without it", x.core(), 96);
    }

    private static void coreLeavesOutByWhatIsLeft() {
        DrawnFields x = withFields(0, 7);
        x.rule(3, 0, 0, 3, HARD);
        x.rule(3, 0, 0, 5, HARD);
        x.rule(3, 0, 0, 6, HARD);
        due("each of three is needed", x.core(), 7);
        x.rule(3, 0, 0, 12, HARD);
        due("0 stays, as the others have VALUE 2; 1 and then 2 are left out", x.core(), 9);
    }

    // ---- draws

    private static void seeds() {
        for (int how = 0; how <= 1; how++) {
            DrawnFields x = withFields(0, 7);
            due("SEED -1", x.draws(how, -1), -2);
            due("SEED 1000000", x.draws(how, 1000000), -2);
            due("SEED far below", x.draws(how, LEAST), -2);
            due("SEED far above", x.draws(how, MOST), -2);
            due("nothing was DRAWN", x.drawn(-1, 0), 0);
            due("SEED 0", x.draws(how, 0), 0);
            due("SEED 999999", x.draws(how, 999999), pick(next(999999), 1, 1, 1, 1, 1, 1, 1, 1));
        }
        DrawnFields x = withFields(0, 7);
        for (int how : new int[] {-1, 2, LEAST, MOST}) due("how " + how, x.draws(how, 0), -2);
    }

    private static void roundTogether() {
        DrawnFields x = withFields(2, 4);
        x.round(0, 1);
        due("the first by SEED 0", x.draws(0, 0), 0);
        due("was DRAWN in its turn", x.of(0, 4), 4);
        due("that one is out", x.draws(0, 0), 1);
        due("both are out", x.draws(0, 0), 2);
        due("all were DRAWN in its turn", x.of(0, 4), 28);
        due("its turn begins anew", x.draws(0, 0), 0);
        due("no VALUE was DRAWN in it but this one", x.of(0, 4), 4);
    }

    private static void roundByNumbers() {
        DrawnFields x = withRule(withFields(0, 1, 0, 1), 4, 0, 1, 8);
        x.round(0, 1);
        x.round(1, 1);
        x.draws(0, 0);
        due("the first is 0 0", now(x), 0);
        x.draws(0, 0);
        due("FIELD 0 leaves 1 0 alone", now(x), 10);
        due("FIELD 0 has had all", x.of(0, 4), 3);
        due("so the turn of FIELD 1 began anew though 0 1 is lawful", x.of(1, 4), 1);
        x.draws(0, 0);
        due("FIELD 0 anew, FIELD 1 goes on", now(x), 1);
        due("turn of FIELD 0", x.of(0, 4), 1);
        due("turn of FIELD 1", x.of(1, 4), 3);
    }

    private static void roundOfLawfulRows() {
        for (int how = 0; how <= 1; how++) {
            DrawnFields x = withRule(withFields(0, 7), 3, 0, 0, 36);
            x.round(0, 1);
            x.draws(how, 0);
            x.draws(how, 0);
            due("both that are lawful", x.of(0, 4), 36);
            x.draws(how, 0);
            due("anew, as no other is lawful", x.of(0, 4), 4);
        }
    }

    private static void wrapAround() {
        int[] seeds = {0, 1, 2, 3, 4, 7, 65535, 65536, 123456, 524287, 524288, 999998, 999999};
        for (int seed : seeds) {
            DrawnFields x = withFields(0, 7, 0, 7, 0, 7, 0, 7);
            long one = next(seed);
            due("TOGETHER by " + seed, x.draws(0, seed), one / 65536 % 4096);
            x.draws(1, seed);
            long s = seed;
            for (int f = 0; f < 4; f++) {
                s = next(s);
                due("IN ORDER by " + seed + ", FIELD " + f, x.of(f, 5), s / 65536 % 8);
            }
        }
        DrawnFields x = withFields(0, 7);
        due("SEED 1: 1103527590 by 65536 is 16838", x.draws(0, 1), 16838 % 8);
        due("SEED 3: 3310558080 less 2147483648, by 65536 is 17747", x.draws(0, 3), 17747 % 8);
    }

    private static void firstAbove() {
        DrawnFields x = withFields(0, 3);
        int[] weights = {0, 2, 0, 3};
        for (int v = 0; v < 4; v++) x.weighs(0, v, weights[v]);
        due("v 0: a WEIGHT of 0 is not above", x.draws(0, 0), 1);
        boolean[] came = new boolean[5];
        for (int seed = 0; seed < 40; seed++) {
            long v = next(seed) / 65536 % 5;
            came[(int) v] = true;
            due("v " + v + " TOGETHER", x.draws(0, seed), v < 2 ? 1 : 3);
            due("v " + v + " IN ORDER", x.draws(1, seed), v < 2 ? 1 : 3);
        }
        for (int v = 0; v < 5; v++) due("v " + v + " came", came[v] ? 1 : 0, 1);
    }

    private static void byProducts() {
        DrawnFields x = withFields(6, 7, 2, 3, 0, 1, 4, 6);
        int[][] weights = {{2, 3}, {0, 4}, {5, 1}, {3, 0, 2}};
        for (int f = 0; f < 4; f++) {
            for (int i = 0; i < weights[f].length; i++) x.weighs(f, x.of(f, 0) + i, weights[f][i]);
        }
        int[] products = new int[24];
        for (int i = 0; i < 24; i++) {
            products[i] = weights[0][i / 12] * weights[1][i / 6 % 2] * weights[2][i / 3 % 2] * weights[3][i % 3];
        }
        for (int seed = 0; seed < 120; seed++) {
            due("by the WEIGHTS of ROWS, SEED " + seed, x.draws(0, seed), pick(next(seed), products));
        }
    }

    private static void onesTogether() {
        DrawnFields x = withFields(0, 2, 0, 1);
        for (int v = 0; v < 3; v++) x.weighs(0, v, 0);
        x.weighs(1, 1, 9);
        for (int seed = 0; seed < 30; seed++) {
            due("all ROWS weigh 0", x.draws(0, seed), next(seed) / 65536 % 6);
        }
        x = withFields(1, 2, 3, 4, 5, 7, 0, 4);
        for (int v = 0; v < 8; v++) x.weighs(2, v, 0);
        for (int seed = 0; seed < 60; seed++) {
            due("all ROWS of four FIELDS weigh 0", x.draws(0, seed * 7), next(seed * 7) / 65536 % 60);
        }
        x = withFields(0, 2);
        x.weighs(0, 1, 0);
        x.weighs(0, 2, 0);
        x.round(0, 1);
        due("one ROW has all the WEIGHT", x.draws(0, 5), 0);
        due("what may be yet weighs 0", x.draws(0, 1), 1 + 16838 % 2);
    }

    private static void onesInOrder() {
        for (int seed = 0; seed < 30; seed++) {
            DrawnFields x = withFields(0, 1, 0, 2);
            x.weighs(0, 1, 9);
            for (int v = 0; v < 3; v++) x.weighs(1, v, 0);
            long first = next(seed);
            x.draws(1, seed);
            due("FIELD 0 by its WEIGHTS", x.of(0, 5), pick(first, 1, 9));
            due("FIELD 1 by ones", x.of(1, 5), pick(next(first), 1, 1, 1));
        }
        DrawnFields x = withFields(0, 2);
        x.weighs(0, 1, 0);
        x.weighs(0, 2, 0);
        x.round(0, 1);
        due("one VALUE has all the WEIGHT", x.draws(1, 5), 0);
        due("what can be yet weighs 0", x.draws(1, 1), 1 + 16838 % 2);
    }

    private static void orderAtFirst() {
        DrawnFields x = new DrawnFields();
        for (int f = 0; f < 4; f++) {
            x.field(0, 1);
            for (int g = 0; g <= f; g++) due("place of FIELD " + g, x.of(g, 3), g);
        }
        x = withFields(0, 1, 0, 1);
        x.orders(1, 0);
        x.field(0, 1);
        due("a new one behind all", x.of(2, 3), 2);
        due("the others as they were", x.of(1, 3) * 10 + x.of(0, 3), 1);
        x.orders(2, 0);
        x.back();
        x.back();
        x.field(0, 1);
        due("one that comes where another went", x.of(2, 3), 2);
    }

    private static void inOrderOfOrder() {
        DrawnFields x = withRule(withFields(0, 7, 0, 7, 0, 7), 0, 0, 2, 7);
        x.orders(2, 0);
        x.orders(0, 2);
        for (int seed = 0; seed < 20; seed++) {
            long first = next(seed);
            long second = next(first);
            x.draws(1, seed);
            due("FIELD 2 first", x.of(2, 5), first / 65536 % 8);
            due("then FIELD 1", x.of(1, 5), second / 65536 % 8);
            due("FIELD 0 has no choice", x.of(0, 5), 7 - first / 65536 % 8);
        }
    }

    private static void eachFieldTakesAnX() {
        for (int seed = 0; seed < 20; seed++) {
            DrawnFields x = withFields(3, 3, 0, 7);
            x.draws(1, seed);
            due("X becomes likewise for one VALUE alone", x.of(1, 5), next(next(seed)) / 65536 % 8);
            due("TOGETHER there is one X", x.draws(0, seed), next(seed) / 65536 % 8);
        }
    }

    private static void roundInOrder() {
        DrawnFields x = withRule(withFields(0, 1, 0, 1), 4, 0, 1, 8);
        x.round(0, 1);
        x.round(1, 1);
        x.orders(1, 0);
        x.draws(1, 0);
        int first = now(x);
        due("turn of FIELD 1", x.of(1, 4), 1 << first % 10);
        x.draws(1, 0);
        due("FIELD 1 is first by ORDER and takes the other", now(x) % 10, 1 - first % 10);
        due("it has had both", x.of(1, 4), 3);
        x.draws(1, 0);
        due("its turn begins anew", x.of(1, 4), 1 << now(x) % 10);
    }

    private static void canIsLeftOrAnew() {
        DrawnFields x = withRule(withFields(0, 0, 0, 1), 4, 0, 1, 1);
        x.round(1, 1);
        x.draws(1, 0);
        due("1 alone can be", x.of(1, 4), 2);
        x.draws(1, 5);
        due("none is left so: anew, and 1 again", x.of(1, 5) * 10 + x.of(1, 4), 12);
        x = withFields(0, 1, 5, 6);
        x.round(1, 1);
        x.draws(1, 0);
        int had = x.of(1, 4);
        x.draws(1, 0);
        due("without the one DRAWN in its turn", x.of(1, 4), 96);
        due("it was one", Integer.bitCount(had), 1);
        due("a FIELD that is not ROUND has none", x.of(0, 4), 0);
    }

    private static void turnOfRoundAlone() {
        for (int how = 0; how <= 1; how++) {
            DrawnFields x = withFields(0, 7, 4, 4);
            x.round(1, 1);
            x.draws(how, 1);
            due("of the ROUND one", x.of(1, 4), 16);
            due("of the other", x.of(0, 4), 0);
            due("NOW", x.of(1, 5), 4);
            x.round(0, 1);
            due("what was DRAWN ahead does not count", x.of(0, 4), 0);
        }
    }

    private static void unlikeRows() {
        DrawnFields x = withFields(0, 7, 0, 7);
        LinkedHashSet<Integer> came = new LinkedHashSet<>();
        int beyond = 0;
        for (int seed = 0; seed < 60; seed++) {
            int row = x.draws(0, seed * 17);
            if (came.size() == 16 && !came.contains(row)) {
                beyond++;
                due("NOW of one beyond", x.of(0, 5) * 8 + x.of(1, 5), row);
            } else {
                came.add(row);
            }
            due("how many", x.drawn(-1, 0), came.size());
        }
        due("some came beyond", beyond > 3 ? 1 : 0, 1);
        List<Integer> kept = new ArrayList<>(came);
        for (int i = 0; i < 16; i++) due("the " + i + "-th", x.drawn(i, 0) * 8 + x.drawn(i, 1), kept.get(i));
        due("not so many", x.drawn(16, 0), -5);
        DrawnFields y = withFields(0, 1);
        y.round(0, 1);
        for (int n = 0; n < 5; n++) y.draws(0, 0);
        due("as each first came", y.drawn(0, 0) * 10 + y.drawn(1, 0), 1);
        due("each once", y.drawn(-1, 0), 2);
    }

    // ---- what makes drawn empty

    private static void makesEmpty(String what, ToIntFunction<DrawnFields> call, boolean empty) {
        DrawnFields x = rich();
        int first = x.of(0, 4);
        int second = x.of(1, 4);
        int last = now(x);
        due("something was DRAWN ahead of " + what, x.drawn(-1, 0), 2);
        due("and in turns", first > 0 && second > 0 ? 1 : 0, 1);
        due(what + " is not refused", call.applyAsInt(x) >= 0 ? 1 : 0, 1);
        due("UNLIKE ROWS after " + what, x.drawn(-1, 0), empty ? 0 : 2);
        due("first turn after " + what, x.of(0, 4), empty ? 0 : first);
        due("second turn after " + what, x.of(1, 4), empty ? 0 : second);
        due("NOW after " + what, x.of(0, 5), empty ? -1 : last / 100);
        due("NOW of FIELD 2 after " + what, x.of(2, 5), empty ? -1 : last % 10);
        due("ROUND stays after " + what, x.of(0, 2) + x.of(1, 2), 2);
    }

    private static void drawnEmpty() {
        makesEmpty("a FIELD's coming", x -> x.field(0, 0), true);
        makesEmpty("a HARD RULE's coming", x -> x.rule(3, 0, 0, 255, HARD), true);
        makesEmpty("a SOFT RULE's coming", x -> x.rule(3, 0, 0, 255, 9), true);
        makesEmpty("a RULE's going", x -> x.drops(2), true);
        makesEmpty("a RANGE told anew", x -> x.range(2, 2, 3), true);
        makesEmpty("the same RANGE told anew", x -> x.range(2, 2, 2), true);
        makesEmpty("f of THE TEXT", x -> reads(x, "f0 0;") - 1, true);
        makesEmpty("h of THE TEXT", x -> reads(x, "h3 0 0 255;") - 1, true);
        makesEmpty("s of THE TEXT", x -> reads(x, "s9 3 0 0 255;") - 1, true);
        makesEmpty("x of THE TEXT", x -> reads(x, "x0;") - 1, true);
    }

    private static void drawnStays() {
        makesEmpty("a WEIGHT", x -> x.weighs(0, 0, 5), false);
        makesEmpty("ROUND of another", x -> x.round(2, 0), false);
        makesEmpty("ORDER", x -> x.orders(2, 0), false);
        makesEmpty("questions", x -> x.rows() + x.core(), false);
        makesEmpty("w of THE TEXT", x -> reads(x, "w0 0 5;") - 1, false);
        makesEmpty("r of another in THE TEXT", x -> reads(x, "r2;") - 1, false);
        makesEmpty("a refused field", x -> x.field(3, 2) + 2, false);
        makesEmpty("a refused rule", x -> x.rule(3, 0, 1, 0, HARD) + 2, false);
        makesEmpty("a refused drops", x -> x.drops(3) + 2, false);
        makesEmpty("a refused range", x -> x.range(0, 3, 2) + 2, false);
        makesEmpty("passed over ones", x -> reads(x, "f3 2;h3 0 1 0;s0 3 0 1 0;x3;"), false);
        makesEmpty("a FIELD's coming and a step back", x -> x.field(0, 0) + x.back(), false);
    }

    // ---- the text

    private static void textBytes() {
        DrawnFields x = new DrawnFields();
        for (int n = 1; n <= 150; n++) due("byte " + n, x.type("d1;".charAt((n - 1) % 3)), n);
        due("a 151st", x.type(' '), -4);
        due("bytes", x.told(3), 150);
        due("all 150 are read", x.reads(), 50);
        due("a 151st yet", x.type('d'), -4);
        due("clear", x.clear(), 150);
        due("the first again", x.type('d'), 1);
    }

    private static String orderOf(int letter, int numbers) {
        StringBuilder t = new StringBuilder().append(LETTERS.charAt(letter));
        for (int i = 0; i < numbers; i++) t.append(i == 0 ? "" : " ").append(0);
        return t.toString();
    }

    private static void togetherOrInOrder() {
        for (int seed = 0; seed < 10; seed++) {
            DrawnFields x = withFields(0, 7, 0, 7);
            reads(x, "d" + seed + ";");
            due("d is TOGETHER", x.of(0, 5) * 8 + x.of(1, 5), next(seed) / 65536 % 64);
            reads(x, "o" + seed + ";");
            due("o is IN ORDER", x.of(0, 5), next(seed) / 65536 % 8);
            due("o takes an X for each FIELD", x.of(1, 5), next(next(seed)) / 65536 % 8);
        }
    }

    private static void howManyNumbers() {
        for (int k = 0; k < LETTERS.length(); k++) {
            String right = orderOf(k, NUMBERS_OF[k]);
            String less = orderOf(k, NUMBERS_OF[k] - 1);
            String more = orderOf(k, NUMBERS_OF[k] + 1);
            due("reads of " + right + ";", reads(new DrawnFields(), right + ";") >= 0 ? 1 : 0, 1);
            due("reads of " + less + ";", reads(new DrawnFields(), less + ";"), -10 - less.length());
            due("reads of " + more + ";", reads(new DrawnFields(), more + ";"), -10 - (more.length() - 1));
            due("reads of " + right, reads(new DrawnFields(), right), -10 - right.length());
            due("reads of " + less, reads(new DrawnFields(), less), -10 - less.length());
        }
    }

    private static void figures() {
        DrawnFields x = withFields(0, 7);
        due("six figures", reads(x, "d999999;"), 1);
        due("VALUE by SEED 999999", x.of(0, 5), pick(next(999999), 1, 1, 1, 1, 1, 1, 1, 1));
        due("six figures, naughts ahead", reads(x, "d000001;"), 1);
        due("VALUE by SEED 1", x.of(0, 5), 16838 % 8);
        due("a seventh", reads(x, "d1234567;"), -17);
        due("a seventh that is a naught", reads(x, "d0000001;"), -17);
        due("a seventh at the end", reads(x, "d1234567"), -17);
        due("a seventh of the second number", reads(x, "f 1 1234567;"), -20);
        due("no figure", reads(x, "d;"), -11);
        due("no figure of the second number", reads(x, "f1 ;"), -13);
        due("each number has six", reads(x, "w000000 000007 000009;"), 1);
        due("WEIGHT", x.weighs(0, 7, 1), 9);
        due("each figure", reads(x, "d102345;d067890;"), 2);
        due("VALUE by SEED 67890", x.of(0, 5), next(67890) / 65536 % 8);
    }

    private static void blanks() {
        DrawnFields x = new DrawnFields();
        due("everywhere", reads(x, "   f   0   3   ;   r   0   ;   "), 2);
        due("nowhere but between two numbers", reads(x, "f1 4;h2 0 1 0;d5;"), 3);
        due("not within a number", reads(x, "d1 2;"), -13);
        due("not within a number of two", reads(x, "f1 2 3;"), -15);
        due("without one two numbers are one", reads(x, "f14;"), -13);
        for (int c = 0; c < 128; c++) {
            int want = c == ' ' || c >= '0' && c <= '9' ? 1 : c == ';' ? -13 : -12;
            due("byte " + c + " in place of a blank", reads(new DrawnFields(), "d5" + (char) c + ";"), want);
        }
    }

    private static void firstByteThatCanNotStand() {
        for (int c = 0; c < 128; c++) {
            boolean letter = c > 0 && LETTERS.indexOf(c) >= 0;
            boolean figure = c >= '0' && c <= '9';
            DrawnFields x = new DrawnFields();
            x.type(c);
            due("byte " + c + " at first", x.reads(), letter || c == ' ' ? -11 : -10);
            types(x, "~");
            due("and one that can not stand there", x.reads(), letter || c == ' ' ? -11 : -10);
            due("byte " + c + " behind an order", reads(x, "d1;" + (char) c),
                c == ' ' ? 1 : letter ? -14 : -13);
            due("byte " + c + " behind a letter", reads(x, "w" + (char) c), figure || c == ' ' ? -12 : -11);
            due("byte " + c + " behind a number that is not the last", reads(x, "w1" + (char) c),
                figure || c == ' ' ? -13 : -12);
            due("byte " + c + " behind the last number", reads(x, "w1 2 3" + (char) c),
                c == ';' ? 0 : figure || c == ' ' ? -17 : -16);
            due("byte " + c + " behind the last number and a blank", reads(x, "w1 2 3 " + (char) c),
                c == ';' ? 0 : c == ' ' ? -18 : -17);
        }
        due("the first of two", reads(new DrawnFields(), "d1;?;d!"), -13);
    }

    private static void endsTooEarly() {
        due("an empty one", new DrawnFields().reads(), -10);
        due("a blank alone", reads(new DrawnFields(), " "), -11);
        StringBuilder blanks = new StringBuilder();
        for (int n = 0; n < 150; n++) blanks.append(' ');
        due("150 blanks", reads(new DrawnFields(), blanks.toString()), -160);
        String text = "f 0 3;s 1 2 0 1 0 ; d 5;";
        for (int n = 0; n <= text.length(); n++) {
            String part = text.substring(0, n);
            int orders = part.length() - part.replace(";", "").length();
            boolean whole = orders > 0 && part.trim().endsWith(";");
            int got = reads(new DrawnFields(), part);
            due("reads of '" + part + "'", got >= 0 ? 1 : got, whole ? 1 : -10 - n);
        }
        StringBuilder full = new StringBuilder();
        for (int n = 0; n < 150; n++) full.append("d1;".charAt(n % 3));
        full.setCharAt(149, ' ');
        due("150 bytes without the last ;", reads(new DrawnFields(), full.toString()), -160);
    }

    private static void nothingDoneByFault() {
        String[] tails = {"q", "d", "d1", "f1;", "d1234567;", ";"};
        for (String tail : tails) {
            DrawnFields x = rich();
            long before = digestWithoutRefusals(x);
            int got = reads(x, "f0 1;h3 0 0 0;s1 3 0 0 1;w0 0 7;r2;x0;d1;o1;" + tail);
            due("a FAULT by " + tail, got <= -10 ? 1 : 0, 1);
            x.clear();
            due("all as before, no STATE, nothing counts", x.digest(), before);
            due("back", x.back(), 0);
        }
    }

    private static void passedOver() {
        String[] bad = {"f3 2", "f0 8", "f8 8", "f999999 999999", "h6 0 1 0", "h0 0 1 15", "h1 0 1 1", "h2 0 1 1",
            "h3 0 0 256", "h3 0 1 1", "h4 0 1 64", "h5 0 1 8", "h2 0 0 0", "h2 3 1 0", "h2 0 3 0", "s10 2 0 1 0",
            "s0 6 0 1 0", "s9 2 0 1 1", "w3 0 1", "w0 8 1", "w0 0 10", "r3", "x3", "x999999"};
        for (String order : bad) {
            DrawnFields x = rich();
            due("reads of " + order + ";", reads(x, order + ";"), 0);
            due("what is behind it is done", reads(x, order + ";w0 1 5;" + order + ";"), 1);
            due("WEIGHT", x.weighs(0, 1, 5), 5);
            due("nothing counts", x.told(0) + x.told(1) + x.told(2), 0);
        }
        DrawnFields x = rich();
        due("NO and FULL, too", reads(x, "h3 0 0 0;d1;o1;f0 0;f0 0;f0 0;"), 2);
        due("RULES up to FULL", reads(x, "x0;h2 0 1 0;h2 0 1 0;h2 0 1 0;h2 0 1 0;h2 0 1 0;h2 0 1 0;s1 2 0 1 0;"), 6);
        due("RULES", x.told(5), 8);
        due("FIELDS", x.told(4), 4);
        due("nothing counts", x.told(0) + x.told(1) + x.told(2), 0);
    }

    // ---- states and refusals

    private static void leavesState(String what, ToIntFunction<DrawnFields> call) {
        DrawnFields x = rich();
        long before = x.digest();
        due("STATES ahead of " + what, x.told(6), 1);
        due(what + " is not refused", call.applyAsInt(x) >= 0 ? 1 : 0, 1);
        due("STATES after " + what, x.told(6), 2);
        x.clear();
        due("back over " + what, x.back(), 1);
        due("all as ahead of " + what, x.digest(), before);
    }

    private static void eachCallLeavesState() {
        leavesState("field", x -> x.field(3, 4));
        leavesState("range", x -> x.range(1, 0, 7));
        leavesState("weighs", x -> x.weighs(2, 7, 3));
        leavesState("round", x -> x.round(0, 0));
        leavesState("orders", x -> x.orders(0, 2));
        leavesState("rule", x -> x.rule(0, 0, 1, 4, 0));
        leavesState("drops", x -> x.drops(0));
        leavesState("draws TOGETHER", x -> x.draws(0, 77));
        leavesState("draws IN ORDER", x -> x.draws(1, 77));
        leavesState("reads", x -> reads(x, "f0 1;w0 0 7;r2;x0;d1;o1;"));
    }

    private static void stateIfNothingChanges() {
        leavesState("the same WEIGHT", x -> x.weighs(0, 1, 9));
        leavesState("not ROUND as it was", x -> x.round(2, 0));
        leavesState("the place where it is", x -> x.orders(1, 1));
        leavesState("the same RANGE", x -> x.range(2, 2, 2));
        leavesState("all passed over", x -> reads(x, "f3 2;x9;"));
        DrawnFields x = withFields(4, 4);
        x.draws(0, 1);
        long before = x.digest();
        due("the same ROW again", x.draws(0, 1), 0);
        due("STATES", x.told(6), 3);
        x.back();
        due("as before", x.digest(), before);
    }

    private static void questionsLeaveNone() {
        DrawnFields x = rich();
        types(x, "d1");
        long before = x.digest();
        x.of(0, 0);
        x.about(0, 0);
        x.rows();
        x.row(0, 0);
        x.row(9999, 0);
        x.heavy(-1, 0);
        x.heavy(0, 1);
        x.sums(3);
        x.sum(0);
        x.sum(99);
        x.soft(0);
        x.soft(99);
        x.core();
        x.drawn(-1, 0);
        x.drawn(0, 0);
        x.drawn(99, 0);
        x.told(0);
        x.reads();
        due("all as before", x.digest(), before);
        x.type('2');
        x.clear();
        due("nor type and clear", x.told(6), 1);
    }

    private static void allButTextAndRefusals() {
        DrawnFields x = new DrawnFields();
        x.field(0, 1);
        types(x, "d1;");
        x.field(1, 0);
        x.rule(3, 0, 0, 0, HARD);
        x.draws(0, 0);
        for (int n = 0; n < 3; n++) x.field(0, 1);
        x.field(0, 1);
        for (int n = 0; n < 4; n++) x.back();
        due("THE TEXT", x.told(3), 3);
        due("BAD", x.told(0), 1);
        due("NO", x.told(1), 1);
        due("FULL", x.told(2), 1);
        due("RULES", x.told(5), 0);
        due("FIELDS", x.told(4), 1);
        due("THE TEXT can be read yet", x.reads(), 1);
        x.clear();
        x.back();
        due("a text that went does not come back", x.told(3), 0);
    }

    private static void fourStates() {
        DrawnFields x = new DrawnFields();
        int[] states = {1, 2, 3, 4, 4, 4, 4};
        x.field(0, 0);
        due("STATES", x.told(6), 1);
        for (int n = 1; n < states.length; n++) {
            x.weighs(0, 0, n + 1);
            due("STATES", x.told(6), states[n]);
        }
        due("a refused call loses none", x.weighs(0, 0, 10), -2);
        due("a FAULT loses none", reads(x, "w0 0 9"), -16);
        for (int left = 3; left >= 0; left--) {
            due("back", x.back(), left);
            due("STATES", x.told(6), left);
            due("WEIGHT", x.heavy(-1, 0), 3 + left);
        }
        due("older ones are lost", x.back(), -3);
        due("WEIGHT", x.heavy(-1, 0), 3);
        for (int n = 1; n <= 5; n++) {
            x.weighs(0, 0, n);
            due("they come anew", x.told(6), Math.min(n, 4));
        }
        x.back();
        x.back();
        x.weighs(0, 0, 8);
        due("after two steps back and one call", x.told(6), 3);
        x.back();
        due("the newest is gone for good", x.heavy(-1, 0), 3);
    }

    private static void refused(String what, int want, Supplier<DrawnFields> made, ToIntFunction<DrawnFields> call) {
        DrawnFields x = made.get();
        DrawnFields twin = made.get();
        for (int n = 1; n <= 2; n++) {
            due(what, call.applyAsInt(x), want);
            for (int kind = 0; kind < 3; kind++) {
                due("how often after " + what, x.told(kind), twin.told(kind) + (kind == -2 - want ? n : 0));
            }
        }
        due("nothing else by " + what, digestWithoutRefusals(x), digestWithoutRefusals(twin));
        for (int step = 0; step < 5; step++) {
            due("a step back after " + what, x.back(), twin.back());
            due("STATES as they were after " + what, digestWithoutRefusals(x), digestWithoutRefusals(twin));
        }
        due("THE TEXT as it was after " + what, x.reads(), twin.reads());
        due("what it does", digestWithoutRefusals(x), digestWithoutRefusals(twin));
    }

    private static DrawnFields some() {
        DrawnFields x = rich();
        x.draws(0, 5);
        x.weighs(0, 2, 3);
        x.draws(1, 6);
        types(x, "f0 2;d7;");
        return x;
    }

    private static DrawnFields unkept() {
        DrawnFields x = some();
        x.rule(3, 0, 0, 0, HARD);
        return x;
    }

    private static DrawnFields full() {
        DrawnFields x = some();
        x.field(1, 2);
        for (int k = 3; k < 8; k++) x.rule(2, 0, 3, 0, k);
        x.draws(0, 8);
        for (int n = x.told(3); n < 150; n++) x.type(' ');
        return x;
    }

    private static void refusedChangesNothing() {
        refused("field", -2, TermsEdgeTests::some, x -> x.field(1, 0));
        refused("range", -2, TermsEdgeTests::some, x -> x.range(0, 1, 0));
        refused("range of no FIELD", -2, TermsEdgeTests::some, x -> x.range(3, 0, 1));
        refused("weighs", -2, TermsEdgeTests::some, x -> x.weighs(0, 1, 10));
        refused("weighs of no VALUE", -2, TermsEdgeTests::some, x -> x.weighs(0, 8, 1));
        refused("round", -2, TermsEdgeTests::some, x -> x.round(0, 2));
        refused("round of no FIELD", -2, TermsEdgeTests::some, x -> x.round(-1, 0));
        refused("orders", -2, TermsEdgeTests::some, x -> x.orders(0, 3));
        refused("orders of no FIELD", -2, TermsEdgeTests::some, x -> x.orders(3, 0));
        refused("rule", -2, TermsEdgeTests::some, x -> x.rule(0, 0, 1, 15, HARD));
        refused("drops", -2, TermsEdgeTests::some, x -> x.drops(3));
        refused("draws", -2, TermsEdgeTests::some, x -> x.draws(2, 0));
        refused("draws by no SEED", -2, TermsEdgeTests::some, x -> x.draws(1, 1000000));
        refused("type", -2, TermsEdgeTests::some, x -> x.type(128));
        refused("draws TOGETHER", -3, TermsEdgeTests::unkept, x -> x.draws(0, 1));
        refused("draws IN ORDER", -3, TermsEdgeTests::unkept, x -> x.draws(1, 1));
        refused("back", -3, () -> new DrawnFields(), x -> x.back());
        refused("field", -4, TermsEdgeTests::full, x -> x.field(0, 1));
        refused("rule", -4, TermsEdgeTests::full, x -> x.rule(2, 0, 1, 0, HARD));
        refused("type", -4, TermsEdgeTests::full, x -> x.type('d'));
    }

    private static void refusedQuestions() {
        refused("of", -2, TermsEdgeTests::some, x -> x.of(3, 0));
        refused("about", -2, TermsEdgeTests::some, x -> x.about(3, 0));
        refused("row", -2, TermsEdgeTests::some, x -> x.row(-1, 0));
        refused("heavy", -2, TermsEdgeTests::some, x -> x.heavy(-1, 1));
        refused("sums", -2, TermsEdgeTests::some, x -> x.sums(-1));
        refused("sum", -2, TermsEdgeTests::some, x -> x.sum(-1));
        refused("soft", -2, TermsEdgeTests::some, x -> x.soft(-1));
        refused("drawn", -2, TermsEdgeTests::some, x -> x.drawn(-2, 0));
        refused("told", -2, TermsEdgeTests::some, x -> x.told(7));
    }

    private static void theFirstOf() {
        refused("field, BAD and FULL", -2, TermsEdgeTests::full, x -> x.field(1, 0));
        refused("rule, BAD and FULL", -2, TermsEdgeTests::full, x -> x.rule(2, 0, 1, 1, HARD));
        refused("rule, BAD by RANK and FULL", -2, TermsEdgeTests::full, x -> x.rule(2, 0, 1, 0, 10));
        refused("type, BAD and FULL", -2, TermsEdgeTests::full, x -> x.type(-1));
        refused("draws, BAD by SEED and NO", -2, TermsEdgeTests::unkept, x -> x.draws(0, -1));
        refused("draws, BAD by how and NO", -2, TermsEdgeTests::unkept, x -> x.draws(2, 1));
    }

    private static void notSoManyIsNotRefused() {
        DrawnFields x = rich();
        due("row", x.row(MOST, 0), -5);
        due("sum", x.sum(MOST), -5);
        due("soft", x.soft(MOST), -5);
        due("drawn", x.drawn(MOST, 0), -5);
        due("sums", x.sums(MOST), 0);
        due("of", x.of(2, 4), 0);
        due("a FAULT", x.reads(), -10);
        due("nothing counts", x.told(0) + x.told(1) + x.told(2), 0);
    }

    public static void main(String[] args) {
        test("An object is used for at most 512 calls", TermsEdgeTests::calls512);
        test("FIELDS 0 .. 3, as they come", TermsEdgeTests::fieldNumbers);
        test("VALUES LOW to HIGH (0 .. 7 each)", TermsEdgeTests::values);
        test("a WEIGHT (0 .. 9) of each VALUE (1 at first)", TermsEdgeTests::weights);
        test("ROUND or not (not at first)", TermsEdgeTests::notRoundAtFirst);
        test("RULES 0 .. 7, as they come", TermsEdgeTests::ruleNumbers);
        test("of KINDS", TermsEdgeTests::kinds);
        test("0 SUM: x and y together are c (0 .. 14)", TermsEdgeTests::sumRule);
        test("1 LESS: x is less than y (c 0)", TermsEdgeTests::lessRule);
        test("2 UNLIKE: x is not y (c 0)", TermsEdgeTests::unlikeRule);
        test("3 ONE OF: x is one of the VALUES of c (bits, 0 .. 255; y is x)", TermsEdgeTests::oneOfRule);
        test("4 IF: if x is c by 8 cut, y is c by 8 left over (0 .. 63)", TermsEdgeTests::ifRule);
        test("5 APART: x and y are c (0 .. 7) apart or more", TermsEdgeTests::apartRule);
        test("x and y are unlike FIELDS but for 3", TermsEdgeTests::unlikeFields);
        test("A RULE is HARD, or SOFT with a RANK (0 .. 9)", TermsEdgeTests::ranks);
        test("by RANK, the least first, of like ones by numbers", TermsEdgeTests::keptInOrder);
        test("KEPT, if some ROW keeps all HARD ones, all KEPT so far and it", TermsEdgeTests::keptOfNone);
        test("(without FIELDS one ROW, the empty one)", TermsEdgeTests::emptyRow);
        test("In order: by VALUES of FIELD 0, then 1, ..", TermsEdgeTests::rowsInOrder);
        test("the product of the WEIGHTS of its VALUES (of the empty one 1)", TermsEdgeTests::rowWeight);
        test("CORE, if no ROW keeps all HARD RULES: all HARD ones at first", TermsEdgeTests::coreWords);
        test("if no ROW keeps the others that are left in it, it is left out",
            TermsEdgeTests::coreLeavesOutByWhatIsLeft);
        test("A DRAW by a SEED (0 .. 999999)", TermsEdgeTests::seeds);
        test("else its turn begins anew (no VALUE was DRAWN in it)", TermsEdgeTests::roundTogether);
        test("for each ROUND FIELD, by numbers: if some ROW of MAY BE has there", TermsEdgeTests::roundByNumbers);
        test("MAY BE: all LAWFUL ROWS", TermsEdgeTests::roundOfLawfulRows);
        test("X times 1103515245 and 12345, by 2147483648 what is left over", TermsEdgeTests::wrapAround);
        test("the first ROW by which WEIGHTS of it and all ahead are above v", TermsEdgeTests::firstAbove);
        test("by the WEIGHTS of MAY BE together what is left over", TermsEdgeTests::byProducts);
        test("(if these are 0 each counts 1)", TermsEdgeTests::onesTogether);
        test("by the WEIGHTS of CAN (or ones, if these are 0)", TermsEdgeTests::onesInOrder);
        test("FIELDS each once (0, 1, .. at first; a new FIELD comes behind all)", TermsEdgeTests::orderAtFirst);
        test("for each FIELD of ORDER: CAN: its VALUES in MAY BE", TermsEdgeTests::inOrderOfOrder);
        test("X becomes likewise", TermsEdgeTests::eachFieldTakesAnX);
        test("IN ORDER: if it is ROUND without those DRAWN in its turn", TermsEdgeTests::roundInOrder);
        test("unless none is left so (its turn begins anew then)", TermsEdgeTests::canIsLeftOrAnew);
        test("each VALUE of a ROUND FIELD is DRAWN in its turn then", TermsEdgeTests::turnOfRoundAlone);
        test("(16 at most; what comes beyond is not kept there)", TermsEdgeTests::unlikeRows);
        test("A FIELD's or a RULE's coming or going, a RANGE told anew makes DRAWN empty", TermsEdgeTests::drawnEmpty);
        test("nothing else makes DRAWN empty", TermsEdgeTests::drawnStays);
        test("THE TEXT (150 bytes at most)", TermsEdgeTests::textBytes);
        test("ORDERS of its own, each ended by ;", TermsEdgeTests::howManyNumbers);
        test("d SEED (TOGETHER), o SEED (IN ORDER)", TermsEdgeTests::togetherOrInOrder);
        test("Numbers have 1 to 6 figures", TermsEdgeTests::figures);
        test("blanks (32) may stand anywhere but within a number", TermsEdgeTests::blanks);
        test("FAULT: the place of the first byte that can not stand there", TermsEdgeTests::firstByteThatCanNotStand);
        test("the TEXT's length, if it ends too early (an empty one, one of blanks alone, too)",
            TermsEdgeTests::endsTooEarly);
        test("If there is one, nothing is done", TermsEdgeTests::nothingDoneByFault);
        test("One that its call would refuse is passed over", TermsEdgeTests::passedOver);
        test("each call told S, if it is not refused, leaves one", TermsEdgeTests::eachCallLeavesState);
        test("also if nothing changes by it", TermsEdgeTests::stateIfNothingChanges);
        test("calls not told S leave none", TermsEdgeTests::questionsLeaveNone);
        test("(all but THE TEXT and how often refused)", TermsEdgeTests::allButTextAndRefusals);
        test("4 at most, older ones lost", TermsEdgeTests::fourStates);
        test("Refused, changing nothing but how often", TermsEdgeTests::refusedChangesNothing);
        test("(a question, too)", TermsEdgeTests::refusedQuestions);
        test("the first of: BAD, NO, FULL", TermsEdgeTests::theFirstOf);
        test("By a FAULT, by what is passed over nothing counts", TermsEdgeTests::notSoManyIsNotRefused);
        System.out.println(looked + " answers of \"Terms\" looked at, " + wrong + " not as due");
        if (wrong != 0) System.exit(1);
    }
}
