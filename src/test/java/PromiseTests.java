/** Each promise of the document by hand: ordinary inputs, the edges that it names, wrong inputs. */
public final class PromiseTests {
    private static int wrong = 0;
    private static int looked = 0;
    private static String promise = "";

    private static void due(String what, long got, long want) {
        looked++;
        if (got != want) {
            wrong++;
            System.out.println(promise + ": " + what + " answered " + got + ", due is " + want);
        }
    }

    private static void refusals(DrawnFields x, int bad, int no, int full) {
        due("told(0)", x.told(0), bad);
        due("told(1)", x.told(1), no);
        due("told(2)", x.told(2), full);
    }

    private static DrawnFields withFields(int... ranges) {
        DrawnFields x = new DrawnFields();
        for (int i = 0; i + 1 < ranges.length; i += 2) {
            x.field(ranges[i], ranges[i + 1]);
        }
        return x;
    }

    private static int reads(DrawnFields x, String text) {
        x.clear();
        for (int i = 0; i < text.length(); i++) {
            x.type(text.charAt(i));
        }
        return x.reads();
    }

    private static void newObject() {
        promise = "1 a new object";
        DrawnFields x = new DrawnFields();
        for (int what = 0; what <= 6; what++) {
            due("told(" + what + ")", x.told(what), 0);
        }
        due("rows: the empty one", x.rows(), 1);
        due("heavy of the empty row", x.heavy(DrawnFields.NONE, 0), 1);
        due("core", x.core(), 0);
        due("sum(0)", x.sum(0), 0);
        due("sum(1)", x.sum(1), -5);
        due("drawn", x.drawn(-1, 0), 0);
        due("soft(0)", x.soft(0), -5);
        due("back", x.back(), DrawnFields.NO);
        due("no FIELD to ask for", x.of(0, 0), DrawnFields.BAD);
        due("two objects have nothing in common", withFields(0, 1).told(4) + new DrawnFields().told(4), 1);
    }

    private static void fields() {
        promise = "2 field";
        DrawnFields x = new DrawnFields();
        due("HIGH below LOW", x.field(3, 2), -2);
        due("LOW below 0", x.field(-1, 2), -2);
        due("HIGH above 7", x.field(0, 8), -2);
        due("far off", x.field(Integer.MIN_VALUE, Integer.MAX_VALUE), -2);
        due("LOW above HIGH, both too large", x.field(9, 8), -2);
        due("no STATE by refused ones", x.told(6), 0);
        due("the first", x.field(0, 7), 0);
        due("one VALUE alone", x.field(7, 7), 1);
        due("rows", x.rows(), 8);
        due("the third", x.field(2, 3), 2);
        due("the fourth", x.field(0, 0), 3);
        due("LOW", x.of(2, 0), 2);
        due("HIGH", x.of(2, 1), 3);
        due("not ROUND at first", x.of(3, 2), 0);
        due("behind all in ORDER", x.of(3, 3), 3);
        due("WEIGHT at first", x.weighs(2, 7, 1), 1);
        due("FULL", x.field(0, 1), -4);
        due("BAD ahead of FULL", x.field(1, 0), -2);
        refusals(x, 6, 0, 1);
        x = withFields(0, 3);
        x.round(0, 1);
        x.draws(0, 5);
        x.field(1, 1);
        due("a FIELD's coming makes DRAWN empty", x.drawn(-1, 0), 0);
        due("NOW is none", x.of(0, 5), -1);
        due("its turn begins anew", x.of(0, 4), 0);
        x.orders(1, 0);
        x.field(0, 1);
        due("a new FIELD behind all in a changed ORDER", x.of(2, 3), 2);
        due("the changed ORDER stays", x.of(1, 3), 0);
    }

    private static void range() {
        promise = "3 range";
        DrawnFields x = withFields(0, 3, 1, 2);
        x.weighs(0, 6, 9);
        due("how many", x.range(0, 5, 7), 3);
        due("LOW", x.of(0, 0), 5);
        due("HIGH", x.of(0, 1), 7);
        due("rows", x.rows(), 6);
        due("WEIGHTS stay", x.heavy(-1, 0), 22);
        due("no such FIELD", x.range(2, 0, 0), -2);
        due("FIELD below 0", x.range(-1, 0, 0), -2);
        due("HIGH below LOW", x.range(0, 1, 0), -2);
        due("HIGH above 7", x.range(0, 1, 8), -2);
        due("LOW below 0", x.range(0, -1, 3), -2);
        refusals(x, 5, 0, 0);
        x.round(1, 1);
        x.draws(1, 1);
        due("one was DRAWN", x.drawn(-1, 0), 1);
        due("the same RANGE told anew", x.range(1, 1, 2), 2);
        due("makes DRAWN empty", x.drawn(-1, 0), 0);
        due("NOW none", x.of(0, 5), -1);
        due("all turns anew", x.of(1, 4), 0);
        due("it is ROUND yet", x.of(1, 2), 1);
        due("back", x.back(), 3);
        due("what was DRAWN is there again", x.drawn(-1, 0), 1);
    }

    private static void weighs() {
        promise = "4 weighs";
        DrawnFields x = withFields(2, 4);
        due("1 at first", x.weighs(0, 2, 9), 1);
        due("what it was", x.weighs(0, 2, 0), 9);
        due("a VALUE beyond the RANGE", x.weighs(0, 7, 5), 1);
        due("the same again", x.weighs(0, 7, 5), 5);
        due("leaves a STATE though nothing changes", x.told(6), 4);
        due("heavy", x.heavy(-1, 0), 2);
        due("VALUE 8", x.weighs(0, 8, 1), -2);
        due("VALUE -1", x.weighs(0, -1, 1), -2);
        due("WEIGHT 10", x.weighs(0, 0, 10), -2);
        due("WEIGHT -1", x.weighs(0, 0, -1), -2);
        due("FIELD 1", x.weighs(1, 0, 1), -2);
        refusals(x, 5, 0, 0);
        x.draws(0, 0);
        x.weighs(0, 3, 4);
        due("DRAWN stays", x.drawn(-1, 0), 1);
        due("NOW stays", x.of(0, 5), 3);
    }

    private static void round() {
        promise = "5 round";
        DrawnFields x = withFields(0, 2, 0, 2);
        due("not at first", x.round(0, 1), 0);
        due("it is", x.round(0, 1), 1);
        due("of", x.of(0, 2), 1);
        due("a draw", x.draws(0, 0), 0);
        due("VALUE 0 was DRAWN in its turn", x.of(0, 4), 1);
        due("no turn of a FIELD that is not ROUND", x.of(1, 4), 0);
        due("ROUND again", x.round(0, 1), 1);
        due("its turn begins anew", x.of(0, 4), 0);
        x.draws(0, 0);
        due("another FIELD", x.round(1, 1), 0);
        due("only its own turn begins anew", x.of(0, 4), 1);
        due("not ROUND", x.round(0, 0), 1);
        due("no turn", x.of(0, 4), 0);
        due("DRAWN stays", x.drawn(-1, 0), 1);
        due("2", x.round(0, 2), -2);
        due("-1", x.round(0, -1), -2);
        due("no such FIELD", x.round(2, 1), -2);
        refusals(x, 3, 0, 0);
    }

    private static void orders() {
        promise = "6 orders";
        DrawnFields x = withFields(0, 1, 0, 1, 0, 1, 0, 1);
        due("to the front", x.orders(3, 0), 3);
        due("3 is at", x.of(3, 3), 0);
        due("0 is at", x.of(0, 3), 1);
        due("2 is at", x.of(2, 3), 3);
        due("to the end", x.orders(0, 3), 1);
        due("0 is at", x.of(0, 3), 3);
        due("1 is at", x.of(1, 3), 1);
        due("2 is at", x.of(2, 3), 2);
        due("where it is", x.orders(1, 1), 1);
        due("STATES", x.told(6), 4);
        due("place 4", x.orders(0, 4), -2);
        due("place -1", x.orders(0, -1), -2);
        due("FIELD 4", x.orders(4, 0), -2);
        due("FIELD -1", x.orders(-1, 0), -2);
        refusals(x, 4, 0, 0);
        x = withFields(0, 1);
        due("one FIELD alone", x.orders(0, 0), 0);
        due("no second place", x.orders(0, 1), -2);
    }

    private static int rowsUnder(int kind, int x, int y, int c) {
        DrawnFields d = withFields(0, 7, 0, 7);
        d.rule(kind, x, y, c, DrawnFields.NONE);
        return d.rows();
    }

    private static void rule() {
        promise = "7 rule";
        due("SUM", rowsUnder(0, 0, 1, 3), 4);
        due("SUM 14", rowsUnder(0, 0, 1, 14), 1);
        due("LESS", rowsUnder(1, 0, 1, 0), 28);
        due("UNLIKE", rowsUnder(2, 1, 0, 0), 56);
        due("ONE OF", rowsUnder(3, 1, 1, 5), 16);
        due("ONE OF none", rowsUnder(3, 0, 0, 0), 0);
        due("ONE OF all", rowsUnder(3, 0, 0, 255), 64);
        due("IF", rowsUnder(4, 0, 1, 63), 57);
        due("APART 0", rowsUnder(5, 0, 1, 0), 64);
        due("APART 3", rowsUnder(5, 0, 1, 3), 30);
        DrawnFields x = withFields(0, 7, 0, 7);
        due("LESS of 1 and 0", x.rule(1, 1, 0, 0, -1), 0);
        due("its first row", x.row(0, 0), 1);
        due("IF 2 then 5, SOFT", x.rule(4, 1, 0, 21, 9), 1);
        due("heavy of VALUE 2 of FIELD 1", x.heavy(1, 2), 1);
        due("with 5 all that are less go", x.heavy(0, 5), 5);
        due("KIND 6", x.rule(6, 0, 1, 0, -1), -2);
        due("KIND -1", x.rule(-1, 0, 1, 0, -1), -2);
        due("SUM 15", x.rule(0, 0, 1, 15, -1), -2);
        due("SUM -1", x.rule(0, 0, 1, -1, -1), -2);
        due("LESS c", x.rule(1, 0, 1, 1, -1), -2);
        due("UNLIKE c", x.rule(2, 0, 1, 1, -1), -2);
        due("ONE OF 256", x.rule(3, 0, 0, 256, -1), -2);
        due("ONE OF of two FIELDS", x.rule(3, 0, 1, 1, -1), -2);
        due("IF 64", x.rule(4, 0, 1, 64, -1), -2);
        due("APART 8", x.rule(5, 0, 1, 8, -1), -2);
        due("x is y", x.rule(2, 1, 1, 0, -1), -2);
        due("no FIELD x", x.rule(2, 2, 1, 0, -1), -2);
        due("no FIELD y", x.rule(2, 0, -1, 0, -1), -2);
        due("RANK 10", x.rule(2, 0, 1, 0, 10), -2);
        due("RANK -2", x.rule(2, 0, 1, 0, -2), -2);
        refusals(x, 15, 0, 0);
        x.draws(0, 0);
        for (int k = 2; k < 8; k++) {
            due("rule", x.rule(2, 0, 1, 0, k), k);
            due("DRAWN is empty", x.drawn(-1, 0), 0);
        }
        due("FULL", x.rule(2, 0, 1, 0, 0), -4);
        due("BAD ahead of FULL", x.rule(2, 0, 1, 1, 0), -2);
        refusals(x, 16, 0, 1);
    }

    private static void drops() {
        promise = "8 drops";
        DrawnFields x = withFields(0, 3, 0, 3);
        x.rule(0, 0, 1, 3, -1);
        x.rule(1, 0, 1, 0, 4);
        x.rule(5, 1, 0, 2, -1);
        due("no RULE 3", x.drops(3), -2);
        due("no RULE -1", x.drops(-1), -2);
        x.draws(0, 0);
        due("left", x.drops(0), 2);
        due("DRAWN is empty", x.drawn(-1, 0), 0);
        due("one nearer", x.about(0, 0), 1);
        due("its RANK comes along", x.about(0, 4), 4);
        due("one nearer, too", x.about(1, 3), 2);
        due("rows", x.rows(), 3);
        due("the last", x.drops(1), 1);
        due("the only", x.drops(0), 0);
        due("none left", x.drops(0), -2);
        due("rows", x.rows(), 16);
        refusals(x, 3, 0, 0);
        due("back", x.back(), 3);
        due("RULES", x.told(5), 1);
    }

    private static void of() {
        promise = "9 of";
        DrawnFields x = withFields(1, 4, 2, 2);
        x.round(0, 1);
        x.orders(0, 1);
        due("LOW", x.of(0, 0), 1);
        due("HIGH", x.of(0, 1), 4);
        due("ROUND", x.of(0, 2), 1);
        due("place", x.of(0, 3), 1);
        due("DRAWN in its turn", x.of(0, 4), 0);
        due("NOW", x.of(0, 5), -1);
        x.draws(0, 0);
        due("DRAWN in its turn", x.of(0, 4), 2);
        due("NOW", x.of(0, 5), 1);
        due("NOW of FIELD 1", x.of(1, 5), 2);
        due("what 6", x.of(0, 6), -2);
        due("what -1", x.of(0, -1), -2);
        due("FIELD 2", x.of(2, 0), -2);
        due("FIELD -1", x.of(-1, 0), -2);
        refusals(x, 4, 0, 0);
    }

    private static void about() {
        promise = "10 about";
        DrawnFields x = withFields(0, 7, 0, 7);
        x.rule(4, 1, 0, 21, 7);
        x.rule(3, 1, 1, 4, -1);
        x.rule(3, 0, 0, 1, 6);
        due("KIND", x.about(0, 0), 4);
        due("x", x.about(0, 1), 1);
        due("y", x.about(0, 2), 0);
        due("c", x.about(0, 3), 21);
        due("RANK", x.about(0, 4), 7);
        due("not KEPT, as RANK 6 comes ahead", x.about(0, 5), 0);
        due("y is x", x.about(1, 2), 1);
        due("HARD", x.about(1, 4), -1);
        due("a HARD one is KEPT", x.about(1, 5), 1);
        due("KEPT", x.about(2, 5), 1);
        x.rule(3, 0, 0, 0, -1);
        due("none is KEPT if no ROW keeps the HARD ones", x.about(2, 5), 0);
        due("a HARD one even then", x.about(1, 5), 1);
        due("what 6", x.about(0, 6), -2);
        due("what -1", x.about(0, -1), -2);
        due("RULE 4", x.about(4, 0), -2);
        due("RULE -1", x.about(-1, 0), -2);
        refusals(x, 4, 0, 0);
    }

    private static void rows() {
        promise = "11 rows";
        DrawnFields x = withFields(0, 7, 0, 7, 0, 7, 0, 7);
        due("all", x.rows(), 4096);
        x.rule(0, 2, 3, 7, -1);
        due("by SUM", x.rows(), 512);
        x.rule(0, 2, 3, 6, 0);
        due("a SOFT one that can not be KEPT", x.rows(), 512);
        x.rule(3, 0, 0, 1, 5);
        due("a SOFT one that is KEPT", x.rows(), 64);
        x.rule(0, 3, 2, 8, -1);
        due("none", x.rows(), 0);
        x.back();
        due("again", x.rows(), 64);
        x.weighs(0, 0, 0);
        due("WEIGHTS of 0 change nothing", x.rows(), 64);
    }

    private static void row() {
        promise = "12 row";
        DrawnFields x = withFields(1, 2, 0, 2, 5, 6);
        x.rule(2, 0, 1, 0, -1);
        int[] want = {105, 106, 125, 126, 205, 206, 215, 216};
        for (int i = 0; i < want.length; i++) {
            due("row " + i, x.row(i, 0) * 100 + x.row(i, 1) * 10 + x.row(i, 2), want[i]);
        }
        due("not so many", x.row(8, 0), -5);
        due("far off", x.row(Integer.MAX_VALUE, 2), -5);
        due("i below 0", x.row(-1, 0), -2);
        due("no such FIELD", x.row(0, 3), -2);
        due("FIELD -1", x.row(0, -1), -2);
        refusals(x, 3, 0, 0);
        due("no FIELD of the empty ROW", new DrawnFields().row(0, 0), -2);
    }

    private static void heavy() {
        promise = "13 heavy";
        DrawnFields x = withFields(0, 7, 0, 7, 0, 7, 0, 7);
        for (int f = 0; f < 4; f++) {
            for (int v = 0; v < 8; v++) {
                x.weighs(f, v, 9);
            }
        }
        due("the heaviest", x.heavy(-1, 0), 26873856);
        due("of one VALUE", x.heavy(3, 7), 3359232);
        x.weighs(1, 4, 0);
        due("of a VALUE that weighs nothing", x.heavy(1, 4), 0);
        x.range(1, 4, 4);
        due("all", x.heavy(-1, 0), 0);
        x.range(1, 2, 3);
        due("of a VALUE beyond the RANGE", x.heavy(1, 4), 0);
        due("VALUE 8", x.heavy(0, 8), -2);
        due("VALUE -1", x.heavy(0, -1), -2);
        due("of all, but a VALUE", x.heavy(-1, 1), -2);
        due("FIELD 4", x.heavy(4, 0), -2);
        due("FIELD -2", x.heavy(-2, 0), -2);
        refusals(x, 5, 0, 0);
    }

    private static void sums() {
        promise = "14 sums";
        DrawnFields x = withFields(0, 7, 0, 7, 0, 7, 0, 7);
        due("0", x.sums(0), 1);
        due("1", x.sums(1), 4);
        due("28", x.sums(28), 1);
        due("29", x.sums(29), 0);
        due("far off", x.sums(Integer.MAX_VALUE), 0);
        x.rule(3, 1, 1, 2, -1);
        due("0 under a rule", x.sums(0), 0);
        due("1 under a rule", x.sums(1), 1);
        due("below 0", x.sums(-1), -2);
        refusals(x, 1, 0, 0);
    }

    private static void sum() {
        promise = "15 sum";
        DrawnFields x = withFields(0, 2, 4, 6);
        x.rule(3, 1, 1, 80, -1);
        x.rule(3, 0, 0, 5, -1);
        due("0", x.sum(0), 4);
        due("1", x.sum(1), 6);
        due("2", x.sum(2), 8);
        due("not so many", x.sum(3), -5);
        due("far off", x.sum(Integer.MAX_VALUE), -5);
        due("below 0", x.sum(-1), -2);
        x.rule(3, 0, 0, 2, -1);
        due("no ROW", x.sum(0), -5);
        refusals(x, 1, 0, 0);
    }

    private static void soft() {
        promise = "16 soft";
        DrawnFields x = withFields(0, 7, 0, 7);
        x.rule(2, 0, 1, 0, 9);
        x.rule(2, 0, 1, 0, 0);
        x.rule(2, 0, 1, 0, -1);
        x.rule(2, 0, 1, 0, 9);
        x.rule(2, 0, 1, 0, 3);
        int[] want = {1, 4, 0, 3, -5};
        for (int i = 0; i < want.length; i++) {
            due("soft(" + i + ")", x.soft(i), want[i]);
        }
        due("far off", x.soft(Integer.MAX_VALUE), -5);
        due("below 0", x.soft(-1), -2);
        refusals(x, 1, 0, 0);
    }

    private static void core() {
        promise = "17 core";
        DrawnFields x = withFields(0, 3, 0, 3);
        x.rule(1, 0, 1, 0, -1);
        x.rule(2, 0, 1, 0, -1);
        x.rule(1, 1, 0, 0, 0);
        due("some ROW keeps all HARD ones", x.core(), 0);
        x.rule(1, 1, 0, 0, -1);
        due("0 and 3", x.core(), 9);
        x.rule(1, 1, 0, 0, -1);
        due("the least numbers are left out first", x.core(), 17);
        x.rule(3, 1, 1, 240, -1);
        due("one alone", x.core(), 32);
        x.drops(5);
        x.drops(0);
        due("none", x.core(), 0);
    }

    private static void draws() {
        promise = "18 draws";
        DrawnFields x = withFields(0, 3, 1, 4);
        x.rule(0, 0, 1, 4, -1);
        x.weighs(0, 0, 0);
        x.weighs(1, 2, 5);
        due("TOGETHER, 6 of 7", x.draws(0, 7), 3);
        due("NOW", x.of(1, 5), 1);
        due("how 2", x.draws(2, 0), -2);
        due("how -1", x.draws(-1, 0), -2);
        due("SEED -1", x.draws(0, -1), -2);
        due("SEED 1000000", x.draws(0, 1000000), -2);
        due("SEED 999999", x.draws(1, 999999) >= 0 ? 1 : 0, 1);
        x.rule(3, 0, 0, 0, -1);
        due("NO", x.draws(0, 0), -3);
        due("BAD ahead of NO", x.draws(0, -1), -2);
        refusals(x, 5, 1, 0);
        due("TOGETHER without FIELDS", new DrawnFields().draws(0, 9), 0);
        due("IN ORDER without FIELDS", new DrawnFields().draws(1, 9), 0);

        x = withFields(0, 3);
        x.weighs(0, 0, 0);
        x.weighs(0, 1, 0);
        x.weighs(0, 2, 0);
        x.weighs(0, 3, 0);
        due("ones where all WEIGHTS are 0, TOGETHER", x.draws(0, 1), 2);
        due("ones where all WEIGHTS are 0, IN ORDER", x.draws(1, 1), 2);

        x = withFields(0, 1, 0, 7);
        x.rule(4, 0, 1, 13, -1);
        x.weighs(0, 1, 9);
        due("IN ORDER: by FIELD 0 alone 1 is likely", x.draws(1, 1), 8);
        x.orders(1, 0);
        due("by FIELD 1 first it must be 0", x.draws(1, 1), 6);
        rounds();
    }

    private static void rounds() {
        for (int how = 0; how <= 1; how++) {
            DrawnFields x = withFields(0, 3, 0, 1);
            x.round(0, 1);
            int seen = 0;
            for (int n = 0; n < 4; n++) {
                x.draws(how, 77 * n);
                seen |= 1 << x.of(0, 5);
                due("in its turn", x.of(0, 4), seen);
            }
            due("all VALUES came once", seen, 15);
            x.draws(how, 5);
            due("its turn began anew", x.of(0, 4), 1 << x.of(0, 5));
        }
    }

    private static void drawn() {
        promise = "19 drawn";
        DrawnFields x = withFields(0, 7, 0, 7);
        due("none", x.drawn(-1, 0), 0);
        due("not so many", x.drawn(0, 0), -5);
        x.range(0, 3, 3);
        x.range(1, 0, 0);
        x.draws(0, 1);
        x.draws(1, 2);
        due("unlike ones", x.drawn(-1, 0), 1);
        due("VALUE of FIELD 0", x.drawn(0, 0), 3);
        due("VALUE of FIELD 1", x.drawn(0, 1), 0);
        due("not so many", x.drawn(1, 0), -5);
        x.range(0, 0, 7);
        x.range(1, 0, 7);
        for (int n = 0; n < 60; n++) {
            x.draws(0, 991 * n);
        }
        due("16 at most", x.drawn(-1, 0), 16);
        due("the first that came", x.drawn(0, 0) * 8 + x.drawn(0, 1), 0);
        due("not so many", x.drawn(16, 0), -5);
        due("i -2", x.drawn(-2, 0), -2);
        due("how many, but f 1", x.drawn(-1, 1), -2);
        due("FIELD 2", x.drawn(0, 2), -2);
        due("FIELD -1", x.drawn(0, -1), -2);
        refusals(x, 4, 0, 0);
        x = new DrawnFields();
        x.draws(0, 1);
        x.draws(0, 2);
        due("the empty ROW", x.drawn(-1, 0), 1);
        due("it has no FIELD", x.drawn(0, 0), -2);
    }

    private static void type() {
        promise = "20 type";
        DrawnFields x = new DrawnFields();
        due("the first", x.type(0), 1);
        due("128", x.type(128), -2);
        due("-1", x.type(-1), -2);
        for (int n = 2; n <= 150; n++) {
            due("type", x.type(127), n);
        }
        due("FULL", x.type(1), -4);
        due("BAD ahead of FULL", x.type(128), -2);
        due("bytes", x.told(3), 150);
        due("no STATE", x.told(6), 0);
        refusals(x, 3, 0, 1);
    }

    private static void clear() {
        promise = "21 clear";
        DrawnFields x = new DrawnFields();
        due("empty", x.clear(), 0);
        x.type('d');
        x.type('5');
        due("had", x.clear(), 2);
        due("empty", x.told(3), 0);
        due("no STATE", x.told(6), 0);
        due("nothing is left of it", reads(x, ";"), -10);
    }

    private static void reads() {
        promise = "22 reads";
        DrawnFields x = new DrawnFields();
        due("two FIELDS, two RULES", reads(x, " f 0 3;f0 3 ;h2 0 1 0;s 4 0 1 0 3 ; "), 4);
        due("one STATE for all", x.told(6), 1);
        due("HARD", x.about(0, 4), -1);
        due("RANK", x.about(1, 4), 4);
        due("KIND", x.about(1, 0), 0);
        due("x", x.about(1, 1), 1);
        due("c", x.about(1, 3), 3);
        due("the TEXT stays", x.told(3), 36);
        due("again", x.reads(), 4);
        due("FIELDS", x.told(4), 4);
        due("w, r, x", reads(x, "w3 1 9;r2;x0;x0;x0;"), 5);
        due("WEIGHT", x.weighs(3, 1, 1), 9);
        due("ROUND", x.of(2, 2), 1);
        due("RULES", x.told(5), 1);
        due("d is TOGETHER", reads(x, "d123456;"), 1);
        int now = x.of(0, 5) * 8 + x.of(1, 5);
        x.back();
        x.draws(0, 123456);
        due("the same", x.of(0, 5) * 8 + x.of(1, 5), now);
        x.back();
        due("o is IN ORDER", reads(x, "o000042;"), 1);
        now = x.of(0, 5) * 8 + x.of(1, 5);
        x.back();
        x.draws(1, 42);
        due("the same", x.of(0, 5) * 8 + x.of(1, 5), now);
        due("all are passed over", reads(x, "f9 9;f0 0;x1;w4 0 0;r4;h3 0 1 0;s10 2 0 1 0;"), 0);
        due("a STATE all the same", x.told(6), 4);
        due("h is HARD: no ROW", reads(x, "h3 0 0 0;d1;o1;"), 1);
        refusals(x, 0, 0, 0);
        faults();
    }

    private static void faults() {
        String[] texts = {"", "   ", "q;", "d1", "d", "d;", "d 1 2;", "d1;;", "d1; f", "d-1;", "f1;", "f 12;",
            "d123456;", "d1234567;", "f123456 1234567;", "w1 2 3 4;", "s1 2 3 4;", "h1 2 3 4 5;", "D1;", "d1;\t",
            "d1 ; ; ", "f1 2d1;", "x", "r1r1;", "d 0000001;"};
        int[] faults = {0, 3, 0, 2, 1, 1, 4, 3, 5, 1, 2, 4,
            -1, 7, 14, 7, 8, 9, 0, 3,
            5, 4, 1, 2, 8};
        for (int i = 0; i < texts.length; i++) {
            DrawnFields x = new DrawnFields();
            int want = faults[i] < 0 ? 1 : -10 - faults[i];
            due("reads of '" + texts[i] + "'", reads(x, texts[i]), want);
            due("STATES after '" + texts[i] + "'", x.told(6), faults[i] < 0 ? 1 : 0);
            refusals(x, 0, 0, 0);
        }
        DrawnFields x = new DrawnFields();
        due("a FAULT at the end", reads(x, "f0 1;f0 1;d1;d"), -24);
        due("nothing is done", x.told(4) + x.drawn(-1, 0), 0);
    }

    private static void back() {
        promise = "23 back";
        DrawnFields x = new DrawnFields();
        due("none", x.back(), -3);
        x.field(0, 3);
        x.round(0, 1);
        x.draws(0, 1);
        x.weighs(0, 1, 7);
        x.type('d');
        x.field(0, 9);
        x.orders(0, 0);
        x.field(0, 1);
        due("STATES", x.told(6), 4);
        due("the FIELD goes", x.back(), 3);
        due("FIELDS", x.told(4), 1);
        due("NOW is there again", x.of(0, 5), 2);
        due("the turn, too", x.of(0, 4), 4);
        due("ORDER", x.back(), 2);
        due("WEIGHT", x.back(), 1);
        due("it was", x.weighs(0, 1, 3), 1);
        due("a STATE comes", x.told(6), 2);
        due("it goes", x.back(), 1);
        due("the draw", x.back(), 0);
        due("NOW", x.of(0, 5), -1);
        due("UNLIKE ROWS", x.drawn(-1, 0), 0);
        due("older ones are lost", x.back(), -3);
        due("ROUND yet", x.of(0, 2), 1);
        due("the TEXT stays", x.told(3), 1);
        refusals(x, 1, 2, 0);
        x.field(2, 2);
        x.rule(2, 0, 1, 0, -1);
        int rows = x.rows();
        x.drops(0);
        due("without the RULE", x.rows(), rows + 1);
        x.back();
        due("with it", x.rows(), rows);
        oldestState();
    }

    private static void oldestState() {
        DrawnFields x = withFields(0, 3);
        for (int w = 2; w <= 8; w++) {
            x.weighs(0, 0, w);
        }
        due("a refused call loses no STATE", x.weighs(0, 0, 10), -2);
        for (int left = 3; left >= 0; left--) {
            due("back", x.back(), left);
            due("heavy", x.heavy(-1, 0), left + 7);
        }
        due("the oldest is gone", x.back(), -3);
    }

    private static void told() {
        promise = "24 told";
        DrawnFields x = withFields(0, 1);
        x.rule(3, 0, 0, 0, -1);
        x.rule(3, 0, 0, 0, -1);
        x.draws(0, 0);
        x.row(-1, 0);
        x.type('a');
        int[] want = {1, 1, 0, 1, 1, 2, 3};
        for (int what = 0; what < want.length; what++) {
            due("told(" + what + ")", x.told(what), want[what]);
        }
        due("7", x.told(7), -2);
        due("-1", x.told(-1), -2);
        due("a refused question counts, too", x.told(0), 3);
    }

    private static void digest() {
        promise = "25 digest";
        long h = 2423;
        int[] ofNew = {0, 0, 0, 0, 0, 0, 0, 1, 1, 0, 0};
        for (int v : ofNew) {
            h = 31 * h + v;
        }
        due("of a new object", new DrawnFields().digest(), h);
        DrawnFields x = withFields(2, 3, 5, 5);
        x.weighs(0, 3, 4);
        x.rule(4, 0, 1, 22, 8);
        x.draws(0, 0);
        x.told(9);
        x.type('f');
        int[] all = {1, 0, 0, 1, 2, 1, 4, 2, 3, 0, 0, 0, 3, 1, 1, 1, 4, 1, 1, 1, 1, 5, 5, 0, 1, 0, 5,
            1, 1, 1, 1, 1, 1, 1, 1, 4, 0, 1, 22, 8, 1, 1, 4, 0, 1, 3, 5};
        h = 2423;
        for (int v : all) {
            h = 31 * h + v;
        }
        due("of all", x.digest(), h);
        due("it changes nothing", x.digest(), h);
    }

    public static void main(String[] args) {
        newObject();
        fields();
        range();
        weighs();
        round();
        orders();
        rule();
        drops();
        of();
        about();
        rows();
        row();
        heavy();
        sums();
        sum();
        soft();
        core();
        draws();
        drawn();
        type();
        clear();
        reads();
        back();
        told();
        digest();
        System.out.println(looked + " answers of promises 1 to 25 looked at, " + wrong + " not as due");
        if (wrong != 0) System.exit(1);
    }
}
