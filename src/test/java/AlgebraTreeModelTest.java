import java.util.ArrayList;
import java.util.Arrays;
import java.util.HashMap;
import java.util.List;
import java.util.Map;
import java.util.Random;

/**
 * Long runs of calls, the same ones each time, on AlgebraTree and on a second
 * writing of the document that is slow and made of lists and maps.
 */
public final class AlgebraTreeModelTest {
    private static final int RUNS = 6000;
    // What later calls of an object answer is free.
    private static final int CALLS = 512;

    private static int wrong = 0;

    public static void main(String[] args) {
        Map<String, Integer> seen = new HashMap<>();
        for (int run = 0; run < RUNS && wrong < 20; run++) {
            new Run(run, seen).play();
        }
        for (String needed : new String[] {"rows", "no rows", "too long", "refused", "same", "not same"}) {
            if (seen.getOrDefault(needed, 0) < RUNS / 10) {
                wrong++;
                System.out.println("the runs hardly ever see: " + needed + " " + seen);
            }
        }
        System.out.println(wrong == 0 ? "the program is as the model" : wrong + " answers differ");
        if (wrong != 0) {
            System.exit(1);
        }
    }

    private static final class Run {
        static final int SAMPLES = 4;
        static final int WHOLE_ROWS = 8;
        static final int MOST_CALLS_OF_A_STEP = 1 + 3 * SAMPLES + 6 * WHOLE_ROWS;

        final int number;
        final Random dice;
        final Map<String, Integer> seen;
        final AlgebraTree program = new AlgebraTree();
        final Model model = new Model();
        int calls = 0;

        Run(int number, Map<String, Integer> seen) {
            this.number = number;
            this.seen = seen;
            dice = new Random(number);
        }

        void play() {
            int early = 10 + pick(60);
            for (int i = 0; i < early; i++) {
                triple();
            }
            while (calls + MOST_CALLS_OF_A_STEP <= CALLS && wrong < 20) {
                step();
            }
        }

        void see(String what) {
            seen.merge(what, 1, Integer::sum);
        }

        void due(String call, int got, int want) {
            calls++;
            if (got == AlgebraTree.NONE) {
                see("refused");
            }
            if (got != want) {
                wrong++;
                System.out.println("run " + number + ": " + call + " answered " + got + ", due is " + want);
            }
        }

        int pick(int bound) {
            return dice.nextInt(bound);
        }

        /** One of the two numbers next to low .. high, or one as far off as can be. */
        int outside(int low, int high) {
            int[] all = {low - 1, high + 1, Integer.MIN_VALUE, Integer.MAX_VALUE};
            return all[pick(all.length)];
        }

        /** Mostly a number of 0 .. size - 1, at times one outside. */
        int near(int size) {
            return pick(25) == 0 || size == 0 ? outside(0, size - 1) : pick(size);
        }

        /** Mostly one of the newer ones, so that deep trees come about. */
        int late(int size) {
            return size > 4 && pick(2) == 0 ? size - 1 - pick(4) : near(size);
        }

        int term(int bound) {
            return pick(60) == 0 ? outside(0, 999) : pick(bound);
        }

        /** A term one time in so many, else a variable. */
        int place(int bound, int oneIn) {
            return pick(80) == 0 ? outside(-6, 999) : pick(oneIn) == 0 ? pick(bound) : -1 - pick(6);
        }

        int expression() {
            return late(model.expressions.size());
        }

        int node() {
            return late(model.nodes.size());
        }

        void step() {
            int kind = pick(100);
            if (kind < 3) {
                // A late triple has to change the rows of old nodes.
                triple();
            } else if (kind < 33) {
                anExpression();
            } else if (kind < 80) {
                aNode();
            } else if (kind < 90) {
                ranRows();
            } else {
                comparison();
            }
        }

        void triple() {
            int g = pick(3) != 0 ? 0 : near(4);
            int s = term(5);
            int p = term(2);
            int o = term(5);
            due("triple", program.triple(g, s, p, o), model.triple(g, s, p, o));
        }

        void anExpression() {
            if (pick(2) == 0 || model.expressions.isEmpty()) {
                int kind = near(3);
                int a = kind == 0 ? constant() : near(6);
                due("leaf", program.leaf(kind, a), model.leaf(kind, a));
            } else {
                int op = near(9);
                int a = expression();
                int b = expression();
                due("apply", program.apply(op, a, b), model.apply(op, a, b));
            }
        }

        int constant() {
            int[] odd = {-1000000, 1000000, 1000, outside(-1000000, 1000000)};
            return pick(4) == 0 ? odd[pick(odd.length)] : pick(7) - 3;
        }

        void aNode() {
            int kind = pick(4) == 0 || model.nodes.size() < 3 ? 0 : 1 + pick(13);
            int a = node();
            int b = node();
            int e = expression();
            int v = near(6);
            int set = pick(40) == 0 ? outside(0, 63) : pick(64);
            boolean down = pick(2) == 0;
            int w = near(4);
            int both = near(3);
            int g = near(4);
            int from = pick(30) == 0 ? outside(0, 1000) : pick(5);
            int n = pick(30) == 0 ? outside(0, 1000) : pick(9);
            int s = place(5, 6);
            int p = place(2, 2);
            int o = place(5, 6);
            switch (kind) {
                case 0 -> due("pattern", program.pattern(s, p, o), model.pattern(s, p, o));
                case 1, 2, 3 -> due("both", program.both(both, a, b), model.both(both, a, b));
                case 4 -> due("left", program.left(a, b, e), model.left(a, b, e));
                case 5 -> due("left", program.left(a, b, -1), model.left(a, b, -1));
                case 6 -> due("filter", program.filter(a, e), model.filter(a, e));
                case 7 -> due("extend", program.extend(a, v, e), model.extend(a, v, e));
                case 8 -> due("project", program.project(a, set), model.project(a, set));
                case 9 -> due("distinct", program.distinct(a), model.distinct(a));
                case 10 -> due("slice", program.slice(a, from, n), model.slice(a, from, n));
                case 11 -> due("order", program.order(a, e, down), model.order(a, e, down));
                case 12 -> due("group", program.group(a, set, w, e, v), model.group(a, set, w, e, v));
                default -> {
                    if (down) {
                        due("graph", program.graph(g, a), model.graph(g, a));
                    } else {
                        due("graphs", program.graphs(v, a), model.graphs(v, a));
                    }
                }
            }
        }

        void ranRows() {
            int node = node();
            int count = model.run(node);
            due("run", program.run(node), count);
            see(count == -2 ? "too long" : count > 0 ? "rows" : count == 0 ? "no rows" : "no node");
            for (int k = 0; k < SAMPLES; k++) {
                int i = near(model.told.size());
                int v = near(6);
                int e = expression();
                due("value", program.value(i, v), model.value(i, v));
                due("look", program.look(i, e), model.look(i, e));
                due("many", program.many(i), model.many(i));
            }
            wholeRows();
        }

        void wholeRows() {
            int size = model.told.size();
            int from = pick(Math.max(1, size - WHOLE_ROWS + 1));
            for (int i = from; i < size && i < from + WHOLE_ROWS; i++) {
                for (int v = 0; v < 6; v++) {
                    due("value of " + i + ", " + v, program.value(i, v), model.value(i, v));
                }
            }
        }

        void comparison() {
            int a = node();
            int b = pick(6) == 0 ? a : node();
            boolean want = model.same(a, b);
            see(want ? "same" : "not same");
            due("same", program.same(a, b) ? 1 : 0, want ? 1 : 0);
        }
    }

    /** Rows are arrays with null for what is open; a list of them is null when it is too long. */
    private static final class Model {
        final List<int[]> triples = new ArrayList<>();
        final List<int[]> expressions = new ArrayList<>();
        final List<Object[]> nodes = new ArrayList<>();
        final Map<Integer, List<Integer[]>> made = new HashMap<>();
        List<Integer[]> told = new ArrayList<>();

        static boolean in(int x, int low, int high) {
            return low <= x && x <= high;
        }

        int triple(int g, int s, int p, int o) {
            if (!in(g, 0, 3) || !in(s, 0, 999) || !in(p, 0, 999) || !in(o, 0, 999) || triples.size() == 60) {
                return -1;
            }
            int[] t = {g, s, p, o};
            for (int[] other : triples) {
                if (Arrays.equals(other, t)) {
                    return -1;
                }
            }
            triples.add(t);
            return triples.size() - 1;
        }

        int leaf(int kind, int a) {
            boolean good = kind == 0 ? in(a, -1000000, 1000000) : in(kind, 1, 2) && in(a, 0, 5);
            return addExpression(good, 100 + kind, a, 0);
        }

        int apply(int op, int a, int b) {
            return addExpression(in(op, 0, 8) && isExpression(a) && (op == 8 || isExpression(b)), op, a, b);
        }

        int addExpression(boolean good, int... parts) {
            if (!good || expressions.size() == 30) {
                return -1;
            }
            expressions.add(parts);
            return expressions.size() - 1;
        }

        boolean isExpression(int e) {
            return in(e, 0, expressions.size() - 1);
        }

        boolean isNode(int a) {
            return in(a, 0, nodes.size() - 1);
        }

        int addNode(boolean good, Object... parts) {
            if (!good || nodes.size() == 30) {
                return -1;
            }
            nodes.add(parts);
            return nodes.size() - 1;
        }

        int pattern(int s, int p, int o) {
            return addNode(in(s, -6, 999) && in(p, -6, 999) && in(o, -6, 999), "pattern", s, p, o);
        }

        int both(int kind, int a, int b) {
            String[] names = {"join", "union", "minus"};
            boolean good = in(kind, 0, 2) && isNode(a) && isNode(b);
            return addNode(good, good ? names[kind] : "", a, b);
        }

        int left(int a, int b, int e) {
            return addNode(isNode(a) && isNode(b) && (e == -1 || isExpression(e)), "left", a, b, e);
        }

        int filter(int a, int e) {
            return addNode(isNode(a) && isExpression(e), "filter", a, e);
        }

        int extend(int a, int v, int e) {
            return addNode(isNode(a) && in(v, 0, 5) && isExpression(e), "extend", a, v, e);
        }

        int project(int a, int set) {
            return addNode(isNode(a) && in(set, 0, 63), "project", a, set);
        }

        int distinct(int a) {
            return addNode(isNode(a), "distinct", a);
        }

        int slice(int a, int from, int n) {
            return addNode(isNode(a) && in(from, 0, 1000) && in(n, 0, 1000), "slice", a, from, n);
        }

        int order(int a, int e, boolean down) {
            return addNode(isNode(a) && isExpression(e), "order", a, e, down ? 1 : 0);
        }

        int group(int a, int set, int w, int e, int v) {
            boolean good = isNode(a) && in(set, 0, 63) && in(w, 0, 3) && isExpression(e) && in(v, 0, 5);
            return addNode(good && (set & 1 << v) == 0, "group", a, set, w, e, v);
        }

        int graph(int g, int a) {
            return addNode(in(g, 0, 3) && isNode(a), "graph", g, a);
        }

        int graphs(int v, int a) {
            return addNode(in(v, 0, 5) && isNode(a), "graphs", v, a);
        }

        int run(int node) {
            if (!isNode(node)) {
                return -1;
            }
            made.clear();
            List<Integer[]> rows = rows(node, 0);
            if (rows == null) {
                return -2;
            }
            told = rows;
            return told.size();
        }

        int value(int i, int v) {
            return in(i, 0, told.size() - 1) && in(v, 0, 5) ? orError(told.get(i)[v]) : Integer.MIN_VALUE;
        }

        int look(int i, int e) {
            return in(i, 0, told.size() - 1) && isExpression(e)
                    ? orError(evaluate(e, told.get(i), new HashMap<>())) : Integer.MIN_VALUE;
        }

        static int orError(Integer value) {
            return value == null ? Integer.MIN_VALUE : value;
        }

        int many(int i) {
            return in(i, 0, told.size() - 1) ? bag(told).get(Arrays.asList(told.get(i))) : -1;
        }

        boolean same(int a, int b) {
            if (!isNode(a) || !isNode(b)) {
                return false;
            }
            made.clear();
            List<Integer[]> x = rows(a, 0);
            List<Integer[]> y = rows(b, 0);
            return x != null && y != null && bag(x).equals(bag(y));
        }

        static Map<List<Integer>, Integer> bag(List<Integer[]> rows) {
            Map<List<Integer>, Integer> bag = new HashMap<>();
            for (Integer[] row : rows) {
                bag.merge(Arrays.asList(row), 1, Integer::sum);
            }
            return bag;
        }

        Integer evaluate(int e, Integer[] row, Map<Integer, Integer> known) {
            if (!known.containsKey(e)) {
                known.put(e, evaluateAnew(expressions.get(e), row, known));
            }
            return known.get(e);
        }

        Integer evaluateAnew(int[] parts, Integer[] row, Map<Integer, Integer> known) {
            if (parts[0] >= 100) {
                return parts[0] == 100 ? Integer.valueOf(parts[1])
                        : parts[0] == 101 ? row[parts[1]] : Integer.valueOf(row[parts[1]] != null ? 1 : 0);
            }
            Integer a = evaluate(parts[1], row, known);
            if (parts[0] == 8) {
                return a == null ? null : Integer.valueOf(a == 0 ? 1 : 0);
            }
            Integer b = evaluate(parts[2], row, known);
            boolean error = a == null || b == null;
            if (parts[0] == 6) {
                boolean oneFalse = a != null && a == 0 || b != null && b == 0;
                return oneFalse ? Integer.valueOf(0) : error ? null : Integer.valueOf(1);
            }
            if (parts[0] == 7) {
                boolean oneTrue = a != null && a != 0 || b != null && b != 0;
                return oneTrue ? Integer.valueOf(1) : error ? null : Integer.valueOf(0);
            }
            if (error || parts[0] == 3 && b == 0) {
                return null;
            }
            long x = a;
            long y = b;
            long[] results = {x + y, x - y, x * y, y == 0 ? 0 : x / y, x < y ? 1 : 0, x == y ? 1 : 0};
            return ranged(results[parts[0]]);
        }

        static Integer ranged(long x) {
            return x < -1000000000L || x > 1000000000L ? null : Integer.valueOf((int) x);
        }

        boolean holds(int e, Integer[] row) {
            Integer value = evaluate(e, row, new HashMap<>());
            return value != null && value != 0;
        }

        List<Integer[]> rows(int node, int g) {
            int key = node * 4 + g;
            if (!made.containsKey(key)) {
                List<Integer[]> rows = rowsAnew(nodes.get(node), g);
                made.put(key, rows == null || rows.size() > 80 ? null : rows);
            }
            return made.get(key);
        }

        List<Integer[]> rowsAnew(Object[] n, int g) {
            String kind = (String) n[0];
            int[] x = new int[6];
            for (int i = 1; i < n.length; i++) {
                x[i] = (Integer) n[i];
            }
            switch (kind) {
                case "pattern":
                    return patternRows(x, g);
                case "graph":
                    return rows(x[2], x[1]);
                case "graphs":
                    return graphsRows(x[1], x[2]);
                case "join":
                case "union":
                case "minus":
                case "left":
                    return twoRows(kind, x[3], rows(x[1], g), rows(x[2], g));
                default:
                    List<Integer[]> a = rows(x[1], g);
                    return a == null ? null : kind.equals("group") ? groupRows(x, a) : oneRows(kind, x, a);
            }
        }

        List<Integer[]> patternRows(int[] x, int g) {
            List<Integer[]> out = new ArrayList<>();
            for (int[] t : triples) {
                Integer[] row = new Integer[6];
                boolean fits = t[0] == g;
                for (int i = 1; i <= 3; i++) {
                    if (x[i] >= 0) {
                        fits &= x[i] == t[i];
                    } else {
                        int v = -1 - x[i];
                        fits &= row[v] == null || row[v] == t[i];
                        row[v] = t[i];
                    }
                }
                if (fits) {
                    out.add(row);
                }
            }
            return out;
        }

        List<Integer[]> graphsRows(int v, int a) {
            List<Integer[]> out = new ArrayList<>();
            for (int g = 1; g <= 3; g++) {
                List<Integer[]> rows = rows(a, g);
                if (rows == null) {
                    return null;
                }
                for (Integer[] row : rows) {
                    if (row[v] == null || row[v] == g) {
                        Integer[] copy = row.clone();
                        copy[v] = g;
                        out.add(copy);
                    }
                }
            }
            return out;
        }

        static boolean agree(Integer[] x, Integer[] y) {
            for (int v = 0; v < 6; v++) {
                if (x[v] != null && y[v] != null && !x[v].equals(y[v])) {
                    return false;
                }
            }
            return true;
        }

        static int shared(Integer[] x, Integer[] y) {
            int count = 0;
            for (int v = 0; v < 6; v++) {
                count += x[v] != null && y[v] != null ? 1 : 0;
            }
            return count;
        }

        static Integer[] together(Integer[] x, Integer[] y) {
            Integer[] both = y.clone();
            for (int v = 0; v < 6; v++) {
                both[v] = x[v] != null ? x[v] : y[v];
            }
            return both;
        }

        List<Integer[]> twoRows(String kind, int e, List<Integer[]> a, List<Integer[]> b) {
            if (a == null || b == null) {
                return null;
            }
            List<Integer[]> out = new ArrayList<>();
            if (kind.equals("union")) {
                out.addAll(a);
                out.addAll(b);
                return out;
            }
            for (Integer[] x : a) {
                List<Integer[]> joined = new ArrayList<>();
                boolean taken = false;
                for (Integer[] y : b) {
                    if (agree(x, y)) {
                        taken |= shared(x, y) > 0;
                        Integer[] row = together(x, y);
                        if (!kind.equals("left") || e == -1 || holds(e, row)) {
                            joined.add(row);
                        }
                    }
                }
                if (kind.equals("minus") ? !taken : kind.equals("left") && joined.isEmpty()) {
                    out.add(x);
                } else if (!kind.equals("minus")) {
                    out.addAll(joined);
                }
            }
            return out;
        }

        List<Integer[]> oneRows(String kind, int[] x, List<Integer[]> a) {
            List<Integer[]> out = new ArrayList<>();
            Map<List<Integer>, Integer> before = new HashMap<>();
            for (int i = 0; i < a.size(); i++) {
                Integer[] row = a.get(i).clone();
                boolean stays = true;
                switch (kind) {
                    case "filter" -> stays = holds(x[2], row);
                    case "extend" -> row[x[2]] = row[x[2]] != null ? row[x[2]] : evaluate(x[3], row, new HashMap<>());
                    case "project" -> row = only(row, x[2]);
                    case "distinct" -> stays = before.put(Arrays.asList(row), 1) == null;
                    case "slice" -> stays = i >= x[2] && i - x[2] < x[3];
                    default -> { }
                }
                if (stays) {
                    out.add(row);
                }
            }
            if (kind.equals("order")) {
                out.sort((p, q) -> {
                    long r = rank(evaluate(x[2], p, new HashMap<>()));
                    long s = rank(evaluate(x[2], q, new HashMap<>()));
                    return x[3] == 1 ? Long.compare(s, r) : Long.compare(r, s);
                });
            }
            return out;
        }

        static long rank(Integer value) {
            return value == null ? Long.MIN_VALUE : value;
        }

        static Integer[] only(Integer[] row, int set) {
            Integer[] kept = new Integer[6];
            for (int v = 0; v < 6; v++) {
                kept[v] = (set & 1 << v) != 0 ? row[v] : null;
            }
            return kept;
        }

        List<Integer[]> groupRows(int[] x, List<Integer[]> a) {
            List<List<Integer>> heads = new ArrayList<>();
            Map<List<Integer>, List<Integer>> members = new HashMap<>();
            if (x[2] == 0) {
                heads.add(Arrays.asList(new Integer[6]));
                members.put(heads.get(0), new ArrayList<>());
            }
            for (Integer[] row : a) {
                List<Integer> head = Arrays.asList(only(row, x[2]));
                if (!members.containsKey(head)) {
                    heads.add(head);
                    members.put(head, new ArrayList<>());
                }
                members.get(head).add(evaluate(x[4], row, new HashMap<>()));
            }
            List<Integer[]> out = new ArrayList<>();
            for (List<Integer> head : heads) {
                Integer[] row = head.toArray(new Integer[0]);
                row[x[5]] = aggregate(x[3], members.get(head));
                out.add(row);
            }
            return out;
        }

        static Integer aggregate(int w, List<Integer> values) {
            if (w == 0) {
                return (int) values.stream().filter(value -> value != null).count();
            }
            if (values.contains(null)) {
                return null;
            }
            if (w == 1) {
                return ranged(values.stream().mapToLong(value -> value).sum());
            }
            return w == 2 ? values.stream().min(Integer::compare).orElse(null)
                    : values.stream().max(Integer::compare).orElse(null);
        }
    }
}
