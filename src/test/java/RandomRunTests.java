import java.util.ArrayDeque;
import java.util.ArrayList;
import java.util.Arrays;
import java.util.Collections;
import java.util.List;
import java.util.Random;
import java.util.TreeSet;

/** Seeded random runs of calls, each answer compared with a plain model written straight from the document. */
public final class RandomRunTests {
    private static final int RUNS = 4000;
    /** An object answers for 512 calls alone: a step makes fewer than 212, so none begins behind this one. */
    private static final int LAST_BEGIN = 300;

    /** What a step back brings back. */
    private static final class World {
        final List<int[]> ranges = new ArrayList<>();
        final List<int[]> weights = new ArrayList<>();
        final List<Boolean> round = new ArrayList<>();
        final List<TreeSet<Integer>> turns = new ArrayList<>();
        final List<Integer> order = new ArrayList<>();
        final List<int[]> rules = new ArrayList<>();
        final List<List<Integer>> unlike = new ArrayList<>();
        List<Integer> now = null;

        World copy() {
            World w = new World();
            for (int[] r : ranges) w.ranges.add(r.clone());
            for (int[] r : weights) w.weights.add(r.clone());
            w.round.addAll(round);
            for (TreeSet<Integer> t : turns) w.turns.add(new TreeSet<>(t));
            w.order.addAll(order);
            for (int[] r : rules) w.rules.add(r.clone());
            w.unlike.addAll(unlike);
            w.now = now;
            return w;
        }
    }

    private static final class Model {
        World w = new World();
        final ArrayDeque<World> states = new ArrayDeque<>();
        final StringBuilder text = new StringBuilder();
        final int[] refused = new int[3];

        int count(int answer) {
            if (answer == -2) refused[0]++;
            if (answer == -3) refused[1]++;
            if (answer == -4) refused[2]++;
            return answer;
        }

        void leave(World before) {
            states.addLast(before);
            if (states.size() > 4) states.removeFirst();
        }

        int call(String name, int... a) {
            World before = w.copy();
            int answer = change(name, a);
            if (answer >= 0) leave(before);
            return count(answer);
        }

        int n() { return w.ranges.size(); }
        boolean field(int f) { return f >= 0 && f < n(); }
        static boolean in(int v, int low, int high) { return v >= low && v <= high; }

        void emptyDrawn() {
            w.now = null;
            w.unlike.clear();
            for (TreeSet<Integer> t : w.turns) t.clear();
        }

        int change(String name, int[] a) {
            switch (name) {
                case "field": {
                    if (!in(a[0], 0, 7) || !in(a[1], 0, 7) || a[1] < a[0]) return -2;
                    if (n() >= 4) return -4;
                    w.order.add(n());
                    w.ranges.add(new int[] {a[0], a[1]});
                    int[] ones = new int[8];
                    Arrays.fill(ones, 1);
                    w.weights.add(ones);
                    w.round.add(false);
                    w.turns.add(new TreeSet<>());
                    emptyDrawn();
                    return n() - 1;
                }
                case "range":
                    if (!field(a[0]) || !in(a[1], 0, 7) || !in(a[2], 0, 7) || a[2] < a[1]) return -2;
                    w.ranges.set(a[0], new int[] {a[1], a[2]});
                    emptyDrawn();
                    return a[2] - a[1] + 1;
                case "weighs": {
                    if (!field(a[0]) || !in(a[1], 0, 7) || !in(a[2], 0, 9)) return -2;
                    int was = w.weights.get(a[0])[a[1]];
                    w.weights.get(a[0])[a[1]] = a[2];
                    return was;
                }
                case "round": {
                    if (!field(a[0]) || !in(a[1], 0, 1)) return -2;
                    boolean was = w.round.set(a[0], a[1] == 1);
                    w.turns.get(a[0]).clear();
                    return was ? 1 : 0;
                }
                case "orders": {
                    if (!field(a[0]) || !in(a[1], 0, n() - 1)) return -2;
                    int was = w.order.indexOf(a[0]);
                    w.order.remove(was);
                    w.order.add(a[1], a[0]);
                    return was;
                }
                case "rule": {
                    int[] most = {14, 0, 0, 255, 63, 7};
                    if (!in(a[0], 0, 5) || !field(a[1]) || !field(a[2])) return -2;
                    if (a[0] == 3 && a[1] != a[2] || a[0] != 3 && a[1] == a[2]) return -2;
                    if (!in(a[3], 0, most[a[0]]) || !in(a[4], -1, 9)) return -2;
                    if (w.rules.size() >= 8) return -4;
                    w.rules.add(a.clone());
                    emptyDrawn();
                    return w.rules.size() - 1;
                }
                case "drops":
                    if (!in(a[0], 0, w.rules.size() - 1)) return -2;
                    w.rules.remove(a[0]);
                    emptyDrawn();
                    return w.rules.size();
                default:
                    return draw(a[0], a[1]);
            }
        }

        List<List<Integer>> allRows() {
            List<List<Integer>> rows = new ArrayList<>();
            rows.add(List.of());
            for (int[] r : w.ranges) {
                List<List<Integer>> longer = new ArrayList<>();
                for (List<Integer> row : rows) {
                    for (int v = r[0]; v <= r[1]; v++) {
                        List<Integer> one = new ArrayList<>(row);
                        one.add(v);
                        longer.add(one);
                    }
                }
                rows = longer;
            }
            return rows;
        }

        boolean keeps(List<Integer> row, int k) {
            int[] r = w.rules.get(k);
            int x = row.get(r[1]);
            int y = row.get(r[2]);
            int c = r[3];
            if (r[0] == 0) return x + y == c;
            if (r[0] == 1) return x < y;
            if (r[0] == 2) return x != y;
            if (r[0] == 3) return (c / (1 << x)) % 2 == 1;
            if (r[0] == 4) return !(x == c / 8) || y == c % 8;
            return Math.abs(x - y) >= c;
        }

        List<List<Integer>> keeping(List<List<Integer>> rows, Iterable<Integer> rules) {
            List<List<Integer>> left = new ArrayList<>();
            for (List<Integer> row : rows) {
                boolean all = true;
                for (int k : rules) all &= keeps(row, k);
                if (all) left.add(row);
            }
            return left;
        }

        List<Integer> hard() {
            List<Integer> hard = new ArrayList<>();
            for (int k = 0; k < w.rules.size(); k++) if (w.rules.get(k)[4] == -1) hard.add(k);
            return hard;
        }

        List<Integer> softs() {
            List<Integer> softs = new ArrayList<>();
            for (int k = 0; k < w.rules.size(); k++) if (w.rules.get(k)[4] != -1) softs.add(k);
            softs.sort((p, q) -> w.rules.get(p)[4] != w.rules.get(q)[4]
                ? w.rules.get(p)[4] - w.rules.get(q)[4] : p - q);
            return softs;
        }

        List<Integer> kept() {
            List<List<Integer>> rows = keeping(allRows(), hard());
            List<Integer> kept = new ArrayList<>(hard());
            for (int k : softs()) {
                List<List<Integer>> left = keeping(rows, List.of(k));
                if (!left.isEmpty()) {
                    rows = left;
                    kept.add(k);
                }
            }
            return kept;
        }

        List<List<Integer>> lawful() { return keeping(allRows(), kept()); }

        int weight(List<Integer> row) {
            int weight = 1;
            for (int f = 0; f < row.size(); f++) weight *= w.weights.get(f)[row.get(f)];
            return weight;
        }

        int core() {
            List<List<Integer>> all = allRows();
            List<Integer> left = hard();
            if (!keeping(all, left).isEmpty()) return 0;
            for (Integer k : hard()) {
                List<Integer> others = new ArrayList<>(left);
                others.remove(k);
                if (keeping(all, others).isEmpty()) left = others;
            }
            int bits = 0;
            for (int k : left) bits |= 1 << k;
            return bits;
        }

        long x;

        int pick(List<Integer> weights) {
            x = (x * 1103515245L + 12345L) % 2147483648L;
            int total = 0;
            for (int one : weights) total += one;
            List<Integer> counts = total == 0 ? Collections.nCopies(weights.size(), 1) : weights;
            if (total == 0) total = weights.size();
            long v = x / 65536 % total;
            int sum = 0;
            for (int i = 0; i < counts.size(); i++) {
                sum += counts.get(i);
                if (sum > v) return i;
            }
            throw new IllegalStateException();
        }

        int draw(int how, int seed) {
            if (!in(how, 0, 1) || !in(seed, 0, 999999)) return -2;
            List<List<Integer>> lawful = lawful();
            if (lawful.isEmpty()) return -3;
            x = seed;
            List<Integer> row = how == 0 ? together(lawful) : inOrder(lawful);
            for (int f = 0; f < n(); f++) if (w.round.get(f)) w.turns.get(f).add(row.get(f));
            w.now = row;
            if (!w.unlike.contains(row) && w.unlike.size() < 16) w.unlike.add(row);
            return lawful.indexOf(row);
        }

        List<Integer> together(List<List<Integer>> lawful) {
            List<List<Integer>> mayBe = new ArrayList<>(lawful);
            for (int f = 0; f < n(); f++) {
                if (!w.round.get(f)) continue;
                List<List<Integer>> fresh = new ArrayList<>();
                for (List<Integer> row : mayBe) if (!w.turns.get(f).contains(row.get(f))) fresh.add(row);
                if (fresh.isEmpty()) w.turns.get(f).clear();
                else mayBe = fresh;
            }
            List<Integer> weights = new ArrayList<>();
            for (List<Integer> row : mayBe) weights.add(weight(row));
            return mayBe.get(pick(weights));
        }

        List<Integer> inOrder(List<List<Integer>> lawful) {
            List<List<Integer>> mayBe = new ArrayList<>(lawful);
            for (int f : w.order) {
                TreeSet<Integer> can = new TreeSet<>();
                for (List<Integer> row : mayBe) can.add(row.get(f));
                if (w.round.get(f)) {
                    TreeSet<Integer> fresh = new TreeSet<>(can);
                    fresh.removeAll(w.turns.get(f));
                    if (fresh.isEmpty()) w.turns.get(f).clear();
                    else can = fresh;
                }
                List<Integer> values = new ArrayList<>(can);
                List<Integer> weights = new ArrayList<>();
                for (int v : values) weights.add(w.weights.get(f)[v]);
                int taken = values.get(pick(weights));
                mayBe.removeIf(row -> row.get(f) != taken);
            }
            return mayBe.get(0);
        }

        int of(int f, int what) {
            if (!field(f) || !in(what, 0, 5)) return count(-2);
            if (what == 0) return w.ranges.get(f)[0];
            if (what == 1) return w.ranges.get(f)[1];
            if (what == 2) return w.round.get(f) ? 1 : 0;
            if (what == 3) return w.order.indexOf(f);
            if (what == 5) return w.now == null ? -1 : w.now.get(f);
            int bits = 0;
            for (int v : w.turns.get(f)) bits |= 1 << v;
            return bits;
        }

        int about(int k, int what) {
            if (!in(k, 0, w.rules.size() - 1) || !in(what, 0, 5)) return count(-2);
            return what < 5 ? w.rules.get(k)[what] : kept().contains(k) ? 1 : 0;
        }

        int row(int i, int f) {
            if (i < 0 || !field(f)) return count(-2);
            List<List<Integer>> lawful = lawful();
            return i < lawful.size() ? lawful.get(i).get(f) : -5;
        }

        int heavy(int f, int v) {
            if (f == -1 ? v != 0 : !field(f) || !in(v, 0, 7)) return count(-2);
            int together = 0;
            for (List<Integer> row : lawful()) if (f == -1 || row.get(f) == v) together += weight(row);
            return together;
        }

        static int total(List<Integer> row) {
            int total = 0;
            for (int v : row) total += v;
            return total;
        }

        int sums(int s) {
            if (s < 0) return count(-2);
            int many = 0;
            for (List<Integer> row : lawful()) if (total(row) == s) many++;
            return many;
        }

        int sum(int i) {
            if (i < 0) return count(-2);
            TreeSet<Integer> sums = new TreeSet<>();
            for (List<Integer> row : lawful()) sums.add(total(row));
            return i < sums.size() ? new ArrayList<>(sums).get(i) : -5;
        }

        int soft(int i) {
            if (i < 0) return count(-2);
            return i < softs().size() ? softs().get(i) : -5;
        }

        int drawn(int i, int f) {
            if (i < -1 || (i == -1 ? f != 0 : !field(f))) return count(-2);
            if (i == -1) return w.unlike.size();
            return i < w.unlike.size() ? w.unlike.get(i).get(f) : -5;
        }

        int type(int c) {
            if (!in(c, 0, 127)) return count(-2);
            if (text.length() >= 150) return count(-4);
            text.append((char) c);
            return text.length();
        }

        int clear() {
            int had = text.length();
            text.setLength(0);
            return had;
        }

        /** A machine of states that takes a byte at a time, unlike the class's reader. */
        int fault(List<int[]> found) {
            String letters = "fhswrxdo";
            int[] needs = {2, 4, 5, 3, 1, 1, 1, 1};
            int letter = -1;
            List<String> numbers = new ArrayList<>();
            boolean within = false;
            for (int at = 0; at < text.length(); at++) {
                char c = text.charAt(at);
                if (c == ' ') {
                    within = false;
                } else if (letter < 0) {
                    letter = letters.indexOf(c);
                    if (letter < 0) return at;
                } else if (c >= '0' && c <= '9') {
                    if (within) {
                        String last = numbers.get(numbers.size() - 1);
                        if (last.length() == 6) return at;
                        numbers.set(numbers.size() - 1, last + c);
                    } else {
                        if (numbers.size() == needs[letter]) return at;
                        numbers.add("" + c);
                        within = true;
                    }
                } else if (c == ';' && numbers.size() == needs[letter]) {
                    int[] order = new int[6];
                    order[0] = letters.charAt(letter);
                    for (int i = 0; i < numbers.size(); i++) order[i + 1] = Integer.parseInt(numbers.get(i));
                    found.add(order);
                    letter = -1;
                    numbers.clear();
                    within = false;
                } else {
                    return at;
                }
            }
            return letter >= 0 || found.isEmpty() ? text.length() : -1;
        }

        int reads() {
            List<int[]> orders = new ArrayList<>();
            int fault = fault(orders);
            if (fault >= 0) return -10 - fault;
            World before = w.copy();
            int done = 0;
            for (int[] o : orders) if (order(o) >= 0) done++;
            leave(before);
            return done;
        }

        int order(int[] o) {
            switch (o[0]) {
                case 'f': return change("field", new int[] {o[1], o[2]});
                case 'h': return change("rule", new int[] {o[1], o[2], o[3], o[4], -1});
                case 's': return change("rule", new int[] {o[2], o[3], o[4], o[5], o[1]});
                case 'w': return change("weighs", new int[] {o[1], o[2], o[3]});
                case 'r': return change("round", new int[] {o[1], 1});
                case 'x': return change("drops", new int[] {o[1]});
                case 'd': return change("draws", new int[] {0, o[1]});
                default: return change("draws", new int[] {1, o[1]});
            }
        }

        int back() {
            if (states.isEmpty()) return count(-3);
            w = states.removeLast();
            return states.size();
        }

        int told(int what) {
            if (!in(what, 0, 6)) return count(-2);
            int[] all = {refused[0], refused[1], refused[2], text.length(), n(), w.rules.size(), states.size()};
            return all[what];
        }

        long digest() {
            List<Integer> vs = new ArrayList<>();
            for (int i = 0; i < 7; i++) vs.add(told(i));
            for (int f = 0; f < n(); f++) {
                for (int i = 0; i < 6; i++) vs.add(of(f, i));
                for (int v : w.weights.get(f)) vs.add(v);
            }
            for (int k = 0; k < w.rules.size(); k++) for (int i = 0; i < 6; i++) vs.add(about(k, i));
            vs.add(lawful().size());
            vs.add(heavy(-1, 0));
            vs.add(core());
            vs.add(w.unlike.size());
            for (List<Integer> row : w.unlike) vs.addAll(row);
            long h = 2423;
            for (int v : vs) h = 31 * h + v;
            return h;
        }
    }

    private final Random chance;
    private final DrawnFields x = new DrawnFields();
    private final Model m = new Model();
    private final StringBuilder story = new StringBuilder();
    private final int widest;
    private int calls;
    private boolean wrong;

    private RandomRunTests(int seed) {
        chance = new Random(seed);
        widest = seed % 10 == 0 ? 7 : 1 + seed % 4;
    }

    private int upTo(int most) { return chance.nextInt(most + 1); }

    /** Mostly a number from low to high, now and then one beside it or far off. */
    private int about(int low, int high) {
        int die = chance.nextInt(60);
        if (die == 0) return low - 1;
        if (die == 1) return high + 1;
        if (die == 2) return chance.nextBoolean() ? Integer.MIN_VALUE : Integer.MAX_VALUE;
        return high < low ? low : low + chance.nextInt(high - low + 1);
    }

    private int someField() { return about(0, m.n() - 1); }
    private int someRule() { return about(0, m.w.rules.size() - 1); }

    private void due(String call, long got, long want) {
        calls++;
        story.append(call).append(" -> ").append(got).append('\n');
        if (got != want) {
            wrong = true;
            story.append("  due is ").append(want).append('\n');
        }
    }

    private void callChange() {
        switch (upTo(13)) {
            case 0: case 1: {
                int a = about(0, 7 - widest);
                int b = about(a, Math.min(7, a + widest));
                due("field(" + a + "," + b + ")", x.field(a, b), m.call("field", a, b));
                break;
            }
            case 2: {
                int f = someField(), a = about(0, 7 - widest), b = about(a, Math.min(7, a + widest));
                due("range(" + f + "," + a + "," + b + ")", x.range(f, a, b), m.call("range", f, a, b));
                break;
            }
            case 3: case 4: {
                int f = someField(), v = about(0, 7), w = chance.nextInt(3) == 0 ? 0 : about(0, 9);
                due("weighs(" + f + "," + v + "," + w + ")", x.weighs(f, v, w), m.call("weighs", f, v, w));
                break;
            }
            case 5: {
                int f = someField(), is = chance.nextInt(4) == 0 ? about(0, 1) : 1;
                due("round(" + f + "," + is + ")", x.round(f, is), m.call("round", f, is));
                break;
            }
            case 6: {
                int f = someField(), p = about(0, m.n() - 1);
                due("orders(" + f + "," + p + ")", x.orders(f, p), m.call("orders", f, p));
                break;
            }
            case 7: case 8: callRule(); break;
            case 9: {
                int k = someRule();
                due("drops(" + k + ")", x.drops(k), m.call("drops", k));
                break;
            }
            case 10: {
                int steps = chance.nextInt(3) == 0 ? 4 : 1;
                for (int i = 0; i < steps; i++) {
                    due("back()", x.back(), m.back());
                    due("digest()", x.digest(), m.digest());
                }
                break;
            }
            default: {
                for (int i = upTo(6); i >= 0; i--) {
                    int how = about(0, 1), seed = about(0, 999999);
                    due("draws(" + how + "," + seed + ")", x.draws(how, seed), m.call("draws", how, seed));
                }
            }
        }
    }

    private int[] someRuleNumbers() {
        int[] most = {14, 0, 0, 255, 63, 7};
        int kind = about(0, 5);
        int a = someField();
        int b = kind == 3 ? a : someField();
        if (chance.nextInt(30) != 0 && kind != 3 && a == b && m.n() > 1 && a >= 0) b = (a + 1) % m.n();
        int c = kind >= 0 && kind < 6 ? about(0, kind == 5 ? 3 : most[kind]) : 0;
        return new int[] {kind, a, b, c, chance.nextInt(2) == 0 ? -1 : about(-1, 9)};
    }

    private void callRule() {
        int[] r = someRuleNumbers();
        due("rule" + Arrays.toString(r), x.rule(r[0], r[1], r[2], r[3], r[4]), m.call("rule", r));
    }

    private void callQuestion() {
        int i = about(0, chance.nextBoolean() ? 4 : 30), f = someField();
        switch (upTo(10)) {
            case 0: { int what = about(0, 5); due("of(" + f + "," + what + ")", x.of(f, what), m.of(f, what)); break; }
            case 1: {
                int k = someRule(), what = about(0, 5);
                due("about(" + k + "," + what + ")", x.about(k, what), m.about(k, what));
                break;
            }
            case 2: due("rows()", x.rows(), m.lawful().size()); break;
            case 3: due("row(" + i + "," + f + ")", x.row(i, f), m.row(i, f)); break;
            case 4: {
                int g = chance.nextInt(3) == 0 ? -1 : f, v = g == -1 ? about(0, 0) : about(0, 7);
                due("heavy(" + g + "," + v + ")", x.heavy(g, v), m.heavy(g, v));
                break;
            }
            case 5: due("sums(" + i + ")", x.sums(i), m.sums(i)); break;
            case 6: due("sum(" + i + ")", x.sum(i), m.sum(i)); break;
            case 7: due("soft(" + i + ")", x.soft(i), m.soft(i)); break;
            case 8: due("core()", x.core(), m.core()); break;
            case 9: {
                int j = chance.nextInt(3) == 0 ? -1 : i, g = j == -1 ? about(0, 0) : f;
                due("drawn(" + j + "," + g + ")", x.drawn(j, g), m.drawn(j, g));
                break;
            }
            default: { int what = about(0, 6); due("told(" + what + ")", x.told(what), m.told(what)); }
        }
    }

    private String someOrder() {
        int f = Math.max(0, someField() & 7);
        int[] r = someRuleNumbers();
        for (int i = 0; i < 4; i++) r[i] = Math.abs(r[i] % 999999);
        String rule = r[0] + " " + r[1] + " " + r[2] + " " + r[3];
        switch (upTo(8)) {
            case 0: return "f" + upTo(3) + " " + (3 + upTo(widest));
            case 1: return "h" + rule;
            case 2: return "s" + upTo(10) + " " + rule;
            case 3: return "w" + f + " " + upTo(8) + " " + upTo(10);
            case 4: return "r" + f;
            case 5: return "x" + upTo(9);
            case 6: return "o" + upTo(999999);
            default: return "d" + upTo(999999);
        }
    }

    private void callText() {
        if (chance.nextInt(12) != 0) due("clear()", x.clear(), m.clear());
        StringBuilder t = new StringBuilder();
        for (int i = upTo(5); i >= 0; i--) {
            if (chance.nextInt(8) == 0) t.append(' ');
            t.append(someOrder());
            if (chance.nextInt(8) == 0) t.append(' ');
            t.append(';');
        }
        if (chance.nextInt(3) == 0) {
            String odd = " ;0123456789fhswrxdoq-";
            int at = chance.nextInt(t.length());
            char c = odd.charAt(chance.nextInt(odd.length()));
            if (chance.nextBoolean()) t.setCharAt(at, c);
            else if (chance.nextBoolean()) t.insert(at, c);
            else t.setLength(at);
        }
        if (chance.nextInt(20) == 0) t.append((char) 128);
        for (int i = 0; i < t.length(); i++) {
            int c = t.charAt(i);
            due("type(" + c + ")", x.type(c), m.type(c));
        }
        due("reads() of '" + m.text + "'", x.reads(), m.reads());
    }

    private boolean goesWrong() {
        for (int n = 0; n < 90 && calls <= LAST_BEGIN && !wrong; n++) {
            int die = chance.nextInt(20);
            if (die < 10) callChange();
            else if (die < 18) callQuestion();
            else callText();
            if (!wrong && n % 3 == 0) due("digest()", x.digest(), m.digest());
        }
        return wrong;
    }

    public static void main(String[] args) {
        int failed = 0;
        for (int seed = 1; seed <= RUNS && failed < 3; seed++) {
            RandomRunTests run = new RandomRunTests(seed);
            if (run.goesWrong()) {
                failed++;
                System.out.println("run of seed " + seed + ":\n" + run.story);
            }
        }
        System.out.println(failed == 0 ? RUNS + " random runs are as due" : failed + " random runs are not as due");
        if (failed != 0) System.exit(1);
    }
}
