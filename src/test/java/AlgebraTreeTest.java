import java.util.ArrayList;
import java.util.List;

/** The promises of the document one by one: ordinary inputs, edges, wrong inputs. */
public final class AlgebraTreeTest {
    private static final int NONE = AlgebraTree.NONE;
    private static final int ERROR = AlgebraTree.ERROR;
    private static final int TOO_LONG = -2;
    private static final int LOW = Integer.MIN_VALUE;
    private static final int HIGH = Integer.MAX_VALUE;

    private static final int SUM = 0;
    private static final int DIFFERENCE = 1;
    private static final int PRODUCT = 2;
    private static final int QUOTIENT = 3;
    private static final int LESS = 4;
    private static final int ALIKE = 5;
    private static final int AND = 6;
    private static final int OR = 7;
    private static final int NOT = 8;

    private static final int JOIN = 0;
    private static final int UNION = 1;
    private static final int MINUS = 2;

    private static int wrong = 0;
    private static String part = "";

    public static void main(String[] args) {
        constants();
        newObject();
        triples();
        leaves();
        operations();
        sharedParts();
        patterns();
        joins();
        unions();
        differences();
        leftJoins();
        filters();
        extensions();
        projections();
        distinctRows();
        slices();
        orders();
        groups();
        groupEdges();
        graphByNumber();
        graphsByVariable();
        runs();
        tooLongBelow();
        longestLeftJoin();
        longestLists();
        rowsUsedAgain();
        nowLongNowShort();
        values();
        looks();
        counts();
        sameness();
        nodeLimit();
        refusalsChangeNothing();
        exampleOfTheReadme();
        System.out.println(wrong == 0 ? "all promises hold" : wrong + " answers are wrong");
        if (wrong != 0) {
            System.exit(1);
        }
    }

    private static void due(String call, Object got, Object want) {
        if (!got.equals(want)) {
            wrong++;
            System.out.println(part + ": " + call + " answered " + got + ", due is " + want);
        }
    }

    /** A row as text: values with dots for open variables, such as "1 . 3 . . .". */
    private static String row(AlgebraTree x, int i) {
        StringBuilder text = new StringBuilder();
        for (int v = 0; v < 6; v++) {
            int value = x.value(i, v);
            text.append(v == 0 ? "" : " ").append(value == ERROR ? "." : "" + value);
        }
        return text.toString();
    }

    private static void rows(AlgebraTree x, int node, String... want) {
        due("run(" + node + ")", x.run(node), want.length);
        List<String> got = new ArrayList<>();
        for (int i = 0; i < want.length; i++) {
            got.add(row(x, i));
        }
        due("rows of " + node, got, List.of(want));
        due("row behind the last of " + node, row(x, want.length), ". . . . . .");
    }

    private static AlgebraTree told(int[]... triples) {
        AlgebraTree x = new AlgebraTree();
        for (int i = 0; i < triples.length; i++) {
            int[] t = triples[i];
            due("triple " + i, x.triple(t[0], t[1], t[2], t[3]), i);
        }
        return x;
    }

    private static int[] t(int... graphAndTerms) {
        return graphAndTerms;
    }

    private static int variable(AlgebraTree x, int v) {
        return x.leaf(1, v);
    }

    private static int constant(AlgebraTree x, int value) {
        return x.leaf(0, value);
    }

    /** A node with one row that has no value: the group of no rows, with v projected away. */
    private static int emptyRow(AlgebraTree x) {
        int zero = constant(x, 0);
        return x.project(x.group(x.pattern(999, 999, 999), 0, 0, zero, 0), 0);
    }

    private static void constants() {
        part = "constants";
        due("NONE", AlgebraTree.NONE, -1);
        due("ERROR", AlgebraTree.ERROR, -2147483648);
    }

    private static void newObject() {
        part = "promise 1";
        AlgebraTree x = new AlgebraTree();
        due("run", x.run(0), NONE);
        due("value", x.value(0, 0), ERROR);
        due("look", x.look(0, 0), ERROR);
        due("many", x.many(0), NONE);
        due("same", x.same(0, 0), false);
        due("apply", x.apply(SUM, 0, 0), NONE);
        due("distinct", x.distinct(0), NONE);
        due("first triple", x.triple(3, 0, 0, 0), 0);
        due("first expression", x.leaf(2, 5), 0);
        due("first node", x.pattern(-1, -2, -3), 0);
        rows(x, 0);
        AlgebraTree y = new AlgebraTree();
        due("objects share nothing", y.run(0), NONE);
    }

    private static void triples() {
        part = "promise 2";
        AlgebraTree x = new AlgebraTree();
        due("lowest", x.triple(0, 0, 0, 0), 0);
        due("highest", x.triple(3, 999, 999, 999), 1);
        due("there already", x.triple(0, 0, 0, 0), NONE);
        due("in another graph", x.triple(1, 0, 0, 0), 2);
        due("other s", x.triple(0, 1, 0, 0), 3);
        due("other p", x.triple(0, 0, 1, 0), 4);
        due("other o", x.triple(0, 0, 0, 1), 5);
        for (int bad : new int[] {-1, 1000, LOW, HIGH}) {
            due("s " + bad, x.triple(0, bad, 1, 1), NONE);
            due("p " + bad, x.triple(0, 1, bad, 1), NONE);
            due("o " + bad, x.triple(0, 1, 1, bad), NONE);
        }
        for (int bad : new int[] {-1, 4, LOW, HIGH}) {
            due("graph " + bad, x.triple(bad, 1, 1, 1), NONE);
        }
        for (int i = 6; i < 60; i++) {
            due("triple " + i, x.triple(i % 4, 7, 7, i), i);
        }
        due("the 61st", x.triple(2, 8, 8, 8), NONE);
        int count = x.group(x.pattern(-1, -2, -3), 0, 0, constant(x, 1), 0);
        rows(x, x.graph(2, count), "14 . . . . .");
    }

    private static void leaves() {
        part = "promise 3";
        AlgebraTree x = told(t(0, 7, 8, 9));
        due("least constant", x.leaf(0, -1000000), 0);
        due("greatest constant", x.leaf(0, 1000000), 1);
        due("first variable", x.leaf(1, 0), 2);
        due("last variable", x.leaf(1, 5), 3);
        due("bound first", x.leaf(2, 0), 4);
        due("bound last", x.leaf(2, 5), 5);
        due("constant too small", x.leaf(0, -1000001), NONE);
        due("constant too large", x.leaf(0, 1000001), NONE);
        for (int bad : new int[] {-1, 6, LOW, HIGH}) {
            due("variable " + bad, x.leaf(1, bad), NONE);
            due("bound " + bad, x.leaf(2, bad), NONE);
        }
        for (int bad : new int[] {-1, 3, LOW, HIGH}) {
            due("kind " + bad, x.leaf(bad, 0), NONE);
        }
        x.run(x.pattern(-1, 8, 9));
        int[] want = {-1000000, 1000000, 7, ERROR, 1, 0};
        for (int e = 0; e < want.length; e++) {
            due("expression " + e, x.look(0, e), want[e]);
        }
        for (int e = 6; e < 30; e++) {
            due("expression " + e, x.leaf(0, 0), e);
        }
        due("the 31st leaf", x.leaf(0, 0), NONE);
        due("the 31st operation", x.apply(SUM, 0, 0), NONE);
        due("the 31st not", x.apply(NOT, 0, 0), NONE);
    }

    private static int operate(int op, int a, int b) {
        AlgebraTree x = new AlgebraTree();
        x.run(emptyRow(x));
        int first = a == ERROR ? variable(x, 5) : constant(x, a);
        int second = b == ERROR ? variable(x, 5) : constant(x, b);
        return x.look(0, x.apply(op, first, second));
    }

    private static void operations() {
        part = "promise 4";
        due("2 + 3", operate(SUM, 2, 3), 5);
        due("2 - 3", operate(DIFFERENCE, 2, 3), -1);
        due("-2 * 3", operate(PRODUCT, -2, 3), -6);
        due("7 / 2", operate(QUOTIENT, 7, 2), 3);
        due("-7 / 2", operate(QUOTIENT, -7, 2), -3);
        due("7 / -2", operate(QUOTIENT, 7, -2), -3);
        due("7 / 0", operate(QUOTIENT, 7, 0), ERROR);
        due("0 / 0", operate(QUOTIENT, 0, 0), ERROR);
        due("2 < 3", operate(LESS, 2, 3), 1);
        due("3 < 3", operate(LESS, 3, 3), 0);
        due("4 < 3", operate(LESS, 4, 3), 0);
        due("3 = 3", operate(ALIKE, 3, 3), 1);
        due("3 = 4", operate(ALIKE, 3, 4), 0);
        due("1000000 * 1000000", operate(PRODUCT, 1000000, 1000000), ERROR);
        due("1000000 * 1000", operate(PRODUCT, 1000000, 1000), 1000000000);
        due("1000000 * -1000", operate(PRODUCT, 1000000, -1000), -1000000000);
        due("1000000 * 1001", operate(PRODUCT, 1000000, 1001), ERROR);
        due("-1000000 * 1001", operate(PRODUCT, -1000000, 1001), ERROR);
        for (int op = SUM; op <= ALIKE; op++) {
            due("op " + op + " of an error, 1", operate(op, ERROR, 1), ERROR);
            due("op " + op + " of 1, an error", operate(op, 1, ERROR), ERROR);
            due("op " + op + " of errors", operate(op, ERROR, ERROR), ERROR);
        }
        int[] kinds = {0, 2, -2, ERROR};
        int[] and = {0, 0, 0, 0, 0, 1, 1, ERROR, 0, 1, 1, ERROR, 0, ERROR, ERROR, ERROR};
        int[] or = {0, 1, 1, ERROR, 1, 1, 1, 1, 1, 1, 1, 1, ERROR, 1, 1, ERROR};
        int[] not = {1, 0, 0, ERROR};
        for (int i = 0; i < 16; i++) {
            String of = kinds[i / 4] + ", " + kinds[i % 4];
            due("and of " + of, operate(AND, kinds[i / 4], kinds[i % 4]), and[i]);
            due("or of " + of, operate(OR, kinds[i / 4], kinds[i % 4]), or[i]);
            due("not of " + of, operate(NOT, kinds[i / 4], kinds[i % 4]), not[i / 4]);
        }
        AlgebraTree x = new AlgebraTree();
        due("of none", x.apply(NOT, 0, 0), NONE);
        constant(x, 4);
        for (int bad : new int[] {-1, 1, LOW, HIGH}) {
            due("first " + bad, x.apply(SUM, bad, 0), NONE);
            due("second " + bad, x.apply(SUM, 0, bad), NONE);
            due("first of or " + bad, x.apply(OR, bad, 0), NONE);
            due("second of or " + bad, x.apply(OR, 0, bad), NONE);
            due("not of " + bad, x.apply(NOT, bad, 0), NONE);
        }
        for (int bad : new int[] {-1, 9, LOW, HIGH}) {
            due("op " + bad, x.apply(bad, 0, 0), NONE);
        }
        int next = 1;
        for (int bad : new int[] {-1, 30, LOW, HIGH}) {
            due("not's second is not looked at", x.apply(NOT, 0, bad), next++);
        }
    }

    private static void sharedParts() {
        part = "promise 4, shared parts";
        AlgebraTree x = new AlgebraTree();
        x.run(emptyRow(x));
        int e = constant(x, 1);
        for (int i = 0; i < 28; i++) {
            e = x.apply(SUM, e, e);
        }
        due("28 doublings", x.look(0, e), 1 << 28);
        due("that is the last one", e, 29);
    }

    private static void patterns() {
        part = "promise 5";
        AlgebraTree x = told(t(0, 5, 1, 6), t(1, 9, 1, 9), t(0, 4, 1, 4), t(0, 4, 2, 6),
                t(0, 3, 3, 3), t(0, 6, 1, 1), t(0, 999, 0, 0));
        rows(x, x.pattern(-1, 1, -2), "5 6 . . . .", "4 4 . . . .", "6 1 . . . .");
        rows(x, x.pattern(-6, -5, -4), ". . . 6 1 5", ". . . 4 1 4", ". . . 6 2 4", ". . . 3 3 3",
                ". . . 1 1 6", ". . . 0 0 999");
        rows(x, x.pattern(-1, 1, -1), "4 . . . . .");
        rows(x, x.pattern(-1, -1, -2), "3 3 . . . .");
        rows(x, x.pattern(-2, -1, -1), "3 3 . . . .", "1 6 . . . .", "0 999 . . . .");
        rows(x, x.pattern(-3, -3, -3), ". . 3 . . .");
        rows(x, x.pattern(4, 2, 6), ". . . . . .");
        rows(x, x.pattern(4, 2, 5));
        rows(x, x.pattern(9, 1, 9));
        rows(x, x.pattern(999, 0, -1), "0 . . . . .");
        for (int bad : new int[] {-7, 1000, LOW, HIGH}) {
            due("s " + bad, x.pattern(bad, 0, 0), NONE);
            due("p " + bad, x.pattern(0, bad, 0), NONE);
            due("o " + bad, x.pattern(0, 0, bad), NONE);
        }
        due("refused ones take no number", x.pattern(0, 999, -6), 10);
    }

    private static void joins() {
        part = "promise 6, join";
        AlgebraTree x = told(t(0, 1, 1, 2), t(0, 3, 1, 4), t(0, 2, 2, 5), t(0, 2, 2, 6), t(0, 7, 2, 8));
        int a = x.pattern(-1, 1, -2);
        int b = x.pattern(-2, 2, -3);
        rows(x, x.both(JOIN, a, b), "1 2 5 . . .", "1 2 6 . . .");
        rows(x, x.both(JOIN, b, a), "1 2 5 . . .", "1 2 6 . . .");
        int c = x.pattern(-4, 2, -3);
        rows(x, x.both(JOIN, a, c), "1 2 5 2 . .", "1 2 6 2 . .", "1 2 8 7 . .",
                "3 4 5 2 . .", "3 4 6 2 . .", "3 4 8 7 . .");
        rows(x, x.both(JOIN, a, a), "1 2 . . . .", "3 4 . . . .");
        int twice = x.both(UNION, a, a);
        rows(x, x.both(JOIN, twice, a), "1 2 . . . .", "3 4 . . . .", "1 2 . . . .", "3 4 . . . .");
        int halfOpen = x.both(UNION, x.project(a, 1), x.project(a, 2));
        rows(x, x.both(JOIN, halfOpen, x.slice(a, 0, 1)), "1 2 . . . .", "1 2 . . . .");
        rows(x, x.both(JOIN, a, x.pattern(0, 0, 0)));
        for (int bad : new int[] {-1, 30, LOW, HIGH}) {
            due("first " + bad, x.both(JOIN, bad, 0), NONE);
            due("second " + bad, x.both(JOIN, 0, bad), NONE);
        }
        for (int bad : new int[] {-1, 3, LOW, HIGH}) {
            due("kind " + bad, x.both(bad, 0, 0), NONE);
        }
    }

    private static void unions() {
        part = "promise 6, union";
        AlgebraTree x = told(t(0, 1, 1, 2), t(0, 3, 1, 4), t(0, 5, 2, 6));
        int a = x.pattern(-1, 1, -2);
        int b = x.pattern(-3, 2, -1);
        rows(x, x.both(UNION, a, b), "1 2 . . . .", "3 4 . . . .", "6 . 5 . . .");
        rows(x, x.both(UNION, b, a), "6 . 5 . . .", "1 2 . . . .", "3 4 . . . .");
        rows(x, x.both(UNION, b, b), "6 . 5 . . .", "6 . 5 . . .");
        due("itself", x.both(UNION, 5, 5), NONE);
    }

    private static void differences() {
        part = "promise 6, minus";
        AlgebraTree x = told(t(0, 1, 1, 2), t(0, 3, 1, 4), t(0, 1, 1, 7), t(0, 1, 2, 9), t(0, 8, 3, 4));
        int a = x.pattern(-1, 1, -2);
        rows(x, x.both(MINUS, a, x.pattern(-1, 2, -3)), "3 4 . . . .");
        rows(x, x.both(MINUS, a, x.pattern(-4, 2, -5)), "1 2 . . . .", "3 4 . . . .", "1 7 . . . .");
        rows(x, x.both(MINUS, a, x.pattern(-1, 3, -2)), "1 2 . . . .", "3 4 . . . .", "1 7 . . . .");
        rows(x, x.both(MINUS, a, x.pattern(-6, 3, -2)), "1 2 . . . .", "1 7 . . . .");
        rows(x, x.both(MINUS, a, a));
        rows(x, x.both(MINUS, a, x.project(a, 0)), "1 2 . . . .", "3 4 . . . .", "1 7 . . . .");
        int openOnes = x.both(UNION, x.project(a, 1), x.project(a, 0));
        rows(x, x.both(MINUS, openOnes, x.slice(a, 1, 1)), "1 . . . . .", "1 . . . . .",
                ". . . . . .", ". . . . . .", ". . . . . .");
    }

    private static void leftJoins() {
        part = "promise 7";
        AlgebraTree x = told(t(0, 1, 1, 2), t(0, 3, 1, 4), t(0, 2, 2, 5), t(0, 2, 2, 1), t(0, 4, 2, 0));
        int a = x.pattern(-1, 1, -2);
        int b = x.pattern(-2, 2, -3);
        int v0 = variable(x, 0);
        int v2 = variable(x, 2);
        int open = variable(x, 5);
        rows(x, x.left(a, b, NONE), "1 2 5 . . .", "1 2 1 . . .", "3 4 0 . . .");
        rows(x, x.left(a, x.pattern(-2, 2, 5), NONE), "1 2 . . . .", "3 4 . . . .");
        int below = x.apply(LESS, v0, v2);
        rows(x, x.left(a, b, below), "1 2 5 . . .", "3 4 . . . .");
        rows(x, x.left(a, b, v2), "1 2 5 . . .", "1 2 1 . . .", "3 4 . . . .");
        rows(x, x.left(a, b, open), "1 2 . . . .", "3 4 . . . .");
        rows(x, x.left(a, b, x.apply(NOT, open, 0)), "1 2 . . . .", "3 4 . . . .");
        rows(x, x.left(a, b, constant(x, -7)), "1 2 5 . . .", "1 2 1 . . .", "3 4 0 . . .");
        rows(x, x.left(x.pattern(0, 0, 0), b, NONE));
        rows(x, x.left(a, x.project(b, 4), below), "1 2 5 . . .", "3 4 5 . . .");
        for (int bad : new int[] {-1, 30, LOW, HIGH}) {
            due("first " + bad, x.left(bad, 0, NONE), NONE);
            due("second " + bad, x.left(0, bad, NONE), NONE);
        }
        for (int bad : new int[] {-2, 6, LOW, HIGH}) {
            due("expression " + bad, x.left(0, 0, bad), NONE);
        }
    }

    private static void filters() {
        part = "promise 8";
        AlgebraTree x = told(t(0, 1, 1, 0), t(0, 2, 1, 1), t(0, 3, 1, 9), t(0, 4, 2, 7));
        int a = x.pattern(-1, 1, -2);
        int o = variable(x, 1);
        int both = x.both(UNION, a, x.pattern(-1, 2, 7));
        rows(x, x.filter(both, o), "2 1 . . . .", "3 9 . . . .");
        rows(x, x.filter(both, x.apply(DIFFERENCE, o, constant(x, 1))), "1 0 . . . .", "3 9 . . . .");
        rows(x, x.filter(both, x.apply(NOT, x.leaf(2, 1), 0)), "4 . . . . .");
        rows(x, x.filter(both, x.apply(QUOTIENT, constant(x, 9), o)), "2 1 . . . .", "3 9 . . . .");
        rows(x, x.filter(both, constant(x, 0)));
        for (int bad : new int[] {-1, 30, LOW, HIGH}) {
            due("node " + bad, x.filter(bad, 0), NONE);
            due("expression " + bad, x.filter(0, bad), NONE);
        }
    }

    private static void extensions() {
        part = "promise 9";
        AlgebraTree x = told(t(0, 1, 1, 0), t(0, 2, 1, 5), t(0, 3, 2, 9));
        int a = x.both(UNION, x.pattern(-1, 1, -2), x.pattern(-3, 2, -1));
        int sum = x.apply(SUM, variable(x, 0), variable(x, 1));
        rows(x, x.extend(a, 5, sum), "1 0 . . . 1", "2 5 . . . 7", "9 . 3 . . .");
        rows(x, x.extend(a, 2, constant(x, -4)), "1 0 -4 . . .", "2 5 -4 . . .", "9 . 3 . . .");
        rows(x, x.extend(a, 0, sum), "1 0 . . . .", "2 5 . . . .", "9 . 3 . . .");
        rows(x, x.extend(a, 1, variable(x, 1)), "1 0 . . . .", "2 5 . . . .", "9 . 3 . . .");
        int v0 = variable(x, 0);
        rows(x, x.extend(x.extend(a, 3, v0), 4, variable(x, 3)),
                "1 0 . 1 1 .", "2 5 . 2 2 .", "9 . 3 9 9 .");
        for (int bad : new int[] {-1, 6, LOW, HIGH}) {
            due("variable " + bad, x.extend(a, bad, v0), NONE);
        }
        for (int bad : new int[] {-1, 30, LOW, HIGH}) {
            due("node " + bad, x.extend(bad, 0, v0), NONE);
            due("expression " + bad, x.extend(a, 0, bad), NONE);
        }
    }

    private static void projections() {
        part = "promise 10";
        AlgebraTree x = told(t(0, 1, 2, 3), t(0, 1, 4, 5));
        int a = x.pattern(-1, -2, -6);
        rows(x, x.project(a, 63), "1 2 . . . 3", "1 4 . . . 5");
        rows(x, x.project(a, 1), "1 . . . . .", "1 . . . . .");
        rows(x, x.project(a, 2), ". 2 . . . .", ". 4 . . . .");
        rows(x, x.project(a, 32), ". . . . . 3", ". . . . . 5");
        rows(x, x.project(a, 28), ". . . . . .", ". . . . . .");
        rows(x, x.project(a, 0), ". . . . . .", ". . . . . .");
        for (int bad : new int[] {-1, 64, LOW, HIGH}) {
            due("set " + bad, x.project(a, bad), NONE);
        }
        for (int bad : new int[] {-1, 7, LOW, HIGH}) {
            due("node " + bad, x.project(bad, 1), NONE);
        }
    }

    private static void distinctRows() {
        part = "promise 11";
        AlgebraTree x = told(t(0, 1, 2, 3), t(0, 4, 2, 3), t(0, 1, 5, 6), t(0, 4, 7, 8), t(0, 0, 9, 9));
        int a = x.pattern(-1, -2, -3);
        rows(x, x.distinct(x.project(a, 1)), "1 . . . . .", "4 . . . . .", "0 . . . . .");
        rows(x, x.distinct(a), "1 2 3 . . .", "4 2 3 . . .", "1 5 6 . . .", "4 7 8 . . .", "0 9 9 . . .");
        rows(x, x.distinct(x.project(a, 0)), ". . . . . .");
        int withOpen = x.both(UNION, x.project(a, 1), x.project(a, 3));
        rows(x, x.distinct(withOpen), "1 . . . . .", "4 . . . . .", "0 . . . . .",
                "1 2 . . . .", "4 2 . . . .", "1 5 . . . .", "4 7 . . . .", "0 9 . . . .");
        for (int bad : new int[] {-1, 30, LOW, HIGH}) {
            due("node " + bad, x.distinct(bad), NONE);
        }
    }

    private static void slices() {
        part = "promise 12";
        AlgebraTree x = told(t(0, 1, 0, 0), t(0, 2, 0, 0), t(0, 3, 0, 0), t(0, 4, 0, 0));
        int a = x.pattern(-1, 0, 0);
        rows(x, x.slice(a, 0, 2), "1 . . . . .", "2 . . . . .");
        rows(x, x.slice(a, 1, 2), "2 . . . . .", "3 . . . . .");
        rows(x, x.slice(a, 3, 2), "4 . . . . .");
        rows(x, x.slice(a, 4, 2));
        rows(x, x.slice(a, 1, 0));
        rows(x, x.slice(a, 1000, 1000));
        rows(x, x.slice(a, 0, 1000), "1 . . . . .", "2 . . . . .", "3 . . . . .", "4 . . . . .");
        for (int bad : new int[] {-1, 1001, LOW, HIGH}) {
            due("from " + bad, x.slice(a, bad, 1), NONE);
            due("n " + bad, x.slice(a, 1, bad), NONE);
        }
        for (int bad : new int[] {-1, 8, LOW, HIGH}) {
            due("node " + bad, x.slice(bad, 0, 1), NONE);
        }
    }

    private static void orders() {
        part = "promise 13";
        AlgebraTree x = told(t(0, 1, 1, 5), t(0, 2, 2, 0), t(0, 3, 1, 2), t(0, 4, 1, 5),
                t(0, 5, 2, 0), t(0, 6, 1, 9), t(0, 7, 1, 2));
        int a = x.pattern(-1, -3, -2);
        int shifted = x.apply(DIFFERENCE, variable(x, 1), constant(x, 5));
        int mixed = x.project(x.order(x.both(UNION, x.both(MINUS, a, x.pattern(-1, 2, 0)),
                x.pattern(-1, 2, 0)), variable(x, 0), false), 3);
        rows(x, x.order(mixed, shifted, false), "2 . . . . .", "5 . . . . .", "3 2 . . . .",
                "7 2 . . . .", "1 5 . . . .", "4 5 . . . .", "6 9 . . . .");
        rows(x, x.order(mixed, shifted, true), "6 9 . . . .", "1 5 . . . .", "4 5 . . . .",
                "3 2 . . . .", "7 2 . . . .", "2 . . . . .", "5 . . . . .");
        rows(x, x.order(mixed, constant(x, 3), true), "1 5 . . . .", "2 . . . . .", "3 2 . . . .",
                "4 5 . . . .", "5 . . . . .", "6 9 . . . .", "7 2 . . . .");
        for (int bad : new int[] {-1, 30, LOW, HIGH}) {
            due("node " + bad, x.order(bad, 0, true), NONE);
            due("expression " + bad, x.order(0, bad, false), NONE);
        }
    }

    private static void groups() {
        part = "promise 14";
        AlgebraTree x = told(t(0, 1, 1, 5), t(0, 2, 1, 7), t(0, 1, 1, 3), t(0, 1, 1, 4), t(0, 2, 2, 0));
        int a = x.both(UNION, x.pattern(-1, 1, -2), x.pattern(-1, 2, 0));
        int o = variable(x, 1);
        int negative = x.apply(DIFFERENCE, constant(x, 0), o);
        rows(x, x.group(a, 1, 0, o, 5), "1 . . . . 3", "2 . . . . 1");
        rows(x, x.group(a, 1, 1, o, 5), "1 . . . . 12", "2 . . . . .");
        rows(x, x.group(a, 1, 2, o, 5), "1 . . . . 3", "2 . . . . .");
        rows(x, x.group(a, 1, 3, o, 5), "1 . . . . 5", "2 . . . . .");
        rows(x, x.group(a, 1, 2, negative, 1), "1 -5 . . . .", "2 . . . . .");
        rows(x, x.group(a, 1, 3, negative, 1), "1 -3 . . . .", "2 . . . . .");
        rows(x, x.group(a, 0, 0, o, 3), ". . . 4 . .");
        rows(x, x.group(a, 2, 0, variable(x, 0), 0), "1 5 . . . .", "1 7 . . . .", "1 3 . . . .",
                "1 4 . . . .", "1 . . . . .");
        rows(x, x.group(a, 7, 0, o, 4), "1 5 . . 1 .", "2 7 . . 1 .", "1 3 . . 1 .", "1 4 . . 1 .",
                "2 . . . 0 .");
        rows(x, x.group(a, 4, 1, variable(x, 0), 0), "7 . . . . .");
        for (int bad : new int[] {-1, 64, LOW, HIGH}) {
            due("set " + bad, x.group(a, bad, 0, o, 0), NONE);
        }
        for (int bad : new int[] {-1, 4, LOW, HIGH}) {
            due("w " + bad, x.group(a, 0, bad, o, 0), NONE);
        }
        for (int bad : new int[] {-1, 30, LOW, HIGH}) {
            due("node " + bad, x.group(bad, 0, 0, o, 0), NONE);
            due("expression " + bad, x.group(a, 0, 0, bad, 0), NONE);
            due("variable " + bad, x.group(a, 0, 0, o, bad == 30 ? 6 : bad), NONE);
        }
        for (int v = 0; v < 6; v++) {
            due("v " + v + " is in the set", x.group(a, 1 << v, 0, o, v), NONE);
        }
    }

    private static void groupEdges() {
        part = "promise 14, edges";
        AlgebraTree x = told(t(0, 1, 1, 0), t(0, 2, 1, 0), t(0, 3, 1, 1));
        int none = x.pattern(9, 9, 9);
        int one = constant(x, 1);
        rows(x, x.group(none, 0, 0, one, 2), ". . 0 . . .");
        rows(x, x.group(none, 0, 1, one, 2), ". . 0 . . .");
        rows(x, x.group(none, 0, 2, one, 2), ". . . . . .");
        rows(x, x.group(none, 0, 3, one, 2), ". . . . . .");
        rows(x, x.group(none, 1, 0, one, 2));
        rows(x, x.group(none, 62, 3, one, 0));
        int a = x.pattern(-1, 1, -2);
        int most = x.apply(PRODUCT, constant(x, 1000000), constant(x, 1000));
        int sign = x.apply(DIFFERENCE, one, x.apply(PRODUCT, constant(x, 2), variable(x, 1)));
        int upAndDown = x.apply(PRODUCT, most, sign);
        rows(x, x.group(a, 0, 1, upAndDown, 3), ". . . 1000000000 . .");
        rows(x, x.group(a, 0, 1, most, 3), ". . . . . .");
        rows(x, x.group(a, 0, 2, upAndDown, 3), ". . . -1000000000 . .");
        rows(x, x.group(a, 0, 3, upAndDown, 3), ". . . 1000000000 . .");
        int down = x.apply(DIFFERENCE, x.apply(DIFFERENCE, one, one), most);
        rows(x, x.group(a, 0, 3, down, 3), ". . . -1000000000 . .");
        rows(x, x.group(a, 0, 2, most, 3), ". . . 1000000000 . .");
        rows(x, x.group(a, 2, 1, down, 3), ". 0 . . . .", ". 1 . -1000000000 . .");
        int bad = x.apply(QUOTIENT, one, variable(x, 1));
        rows(x, x.group(a, 0, 0, bad, 3), ". . . 1 . .");
        rows(x, x.group(a, 0, 3, bad, 3), ". . . . . .");
    }

    private static void graphByNumber() {
        part = "promise 15";
        AlgebraTree x = told(t(1, 1, 1, 1), t(0, 2, 2, 2), t(3, 3, 3, 3), t(1, 4, 4, 4));
        int a = x.pattern(-1, -2, -3);
        rows(x, x.graph(0, a), "2 2 2 . . .");
        int one = x.graph(1, a);
        rows(x, one, "1 1 1 . . .", "4 4 4 . . .");
        rows(x, x.graph(2, a));
        rows(x, x.graph(3, a), "3 3 3 . . .");
        rows(x, x.graph(3, one), "1 1 1 . . .", "4 4 4 . . .");
        rows(x, x.graph(1, x.both(UNION, x.graph(0, a), a)), "2 2 2 . . .", "1 1 1 . . .", "4 4 4 . . .");
        rows(x, x.both(UNION, a, x.graph(3, a)), "2 2 2 . . .", "3 3 3 . . .");
        for (int bad : new int[] {-1, 4, LOW, HIGH}) {
            due("graph " + bad, x.graph(bad, a), NONE);
        }
        for (int bad : new int[] {-1, 30, LOW, HIGH}) {
            due("node " + bad, x.graph(0, bad), NONE);
        }
    }

    private static void graphsByVariable() {
        part = "promise 16";
        AlgebraTree x = told(t(3, 1, 1, 9), t(0, 2, 2, 2), t(1, 3, 3, 3), t(2, 2, 4, 4), t(1, 1, 5, 5), t(3, 7, 7, 7));
        int a = x.pattern(-1, -2, -3);
        rows(x, x.graphs(5, a), "3 3 3 . . 1", "1 5 5 . . 1", "2 4 4 . . 2", "1 1 9 . . 3", "7 7 7 . . 3");
        int first = x.graphs(0, a);
        rows(x, first, "1 5 5 . . .", "2 4 4 . . .");
        rows(x, x.graph(3, first), "1 5 5 . . .", "2 4 4 . . .");
        rows(x, x.graphs(4, x.graph(0, a)), "2 2 2 . 1 .", "2 2 2 . 2 .", "2 2 2 . 3 .");
        rows(x, x.graphs(4, first), "1 5 5 . 1 .", "2 4 4 . 1 .", "1 5 5 . 2 .", "2 4 4 . 2 .",
                "1 5 5 . 3 .", "2 4 4 . 3 .");
        rows(x, x.graphs(0, x.group(a, 0, 0, constant(x, 1), 1)), "1 2 . . . .", "2 1 . . . .", "3 2 . . . .");
        for (int bad : new int[] {-1, 6, LOW, HIGH}) {
            due("variable " + bad, x.graphs(bad, a), NONE);
        }
        for (int bad : new int[] {-1, 30, LOW, HIGH}) {
            due("node " + bad, x.graphs(0, bad), NONE);
        }
    }

    /** The first n triples of graph 0, with s counting up from 0. */
    private static AlgebraTree counted(int n) {
        AlgebraTree x = new AlgebraTree();
        for (int i = 0; i < n; i++) {
            x.triple(0, i, 0, 0);
        }
        return x;
    }

    private static void runs() {
        part = "promise 17";
        AlgebraTree x = counted(40);
        int a = x.pattern(-1, 0, 0);
        due("none such", x.run(1), NONE);
        due("none such", x.run(-1), NONE);
        due("none such", x.run(LOW), NONE);
        due("none such", x.run(HIGH), NONE);
        int twice = x.both(UNION, a, a);
        due("80 rows", x.run(twice), 80);
        due("row 79", row(x, 79), "39 . . . . .");
        int more = x.both(UNION, twice, x.slice(a, 0, 1));
        due("81 rows", x.run(more), TOO_LONG);
        due("rows of before stay", row(x, 79), "39 . . . . .");
        due("none such", x.run(30), NONE);
        due("rows of before stay", x.many(3), 2);
        due("one row", x.run(x.slice(a, 7, 1)), 1);
        due("row 0", row(x, 0), "7 . . . . .");
        due("row 1 is gone", row(x, 1), ". . . . . .");
        due("a new triple", x.triple(0, 40, 0, 0), 40);
        due("is not told before the next run", x.many(1), NONE);
        due("41 rows", x.run(a), 41);
        due("the new one", row(x, 40), "40 . . . . .");
        due("82 rows", x.run(twice), TOO_LONG);
        due("no rows", x.run(x.pattern(1, 1, 1)), 0);
        due("none is told", x.many(0), NONE);
    }

    private static void tooLongBelow() {
        part = "too long";
        AlgebraTree x = counted(9);
        for (int i = 0; i < 10; i++) {
            x.triple(2, i, 0, 0);
        }
        int a = x.pattern(-1, 0, 0);
        int b = x.pattern(-2, 0, 0);
        int wide = x.both(JOIN, a, b);
        due("81 rows over graph 0", x.run(wide), TOO_LONG);
        due("none over graph 1", x.run(x.graph(1, wide)), 0);
        due("100 over graph 2", x.run(x.graph(2, wide)), TOO_LONG);
        due("one of the graphs", x.run(x.graphs(5, wide)), TOO_LONG);
        int nothing = x.pattern(9, 9, 9);
        int one = constant(x, 1);
        due("join of none and it", x.run(x.both(JOIN, nothing, wide)), TOO_LONG);
        due("join of it and none", x.run(x.both(JOIN, wide, nothing)), TOO_LONG);
        due("minus", x.run(x.both(MINUS, nothing, wide)), TOO_LONG);
        due("left", x.run(x.left(nothing, wide, NONE)), TOO_LONG);
        due("filter", x.run(x.filter(wide, constant(x, 0))), TOO_LONG);
        due("extend", x.run(x.extend(wide, 5, one)), TOO_LONG);
        due("project", x.run(x.project(wide, 0)), TOO_LONG);
        due("distinct", x.run(x.distinct(wide)), TOO_LONG);
        int cut = x.slice(wide, 0, 0);
        due("slice", x.run(cut), TOO_LONG);
        due("above a slice", x.run(x.both(UNION, nothing, cut)), TOO_LONG);
        due("order", x.run(x.order(wide, one, true)), TOO_LONG);
        due("group", x.run(x.group(wide, 0, 0, one, 5)), TOO_LONG);
        due("graph", x.run(x.graph(0, wide)), TOO_LONG);
        due("graphs over a fixed graph", x.run(x.graphs(5, x.graph(0, wide))), TOO_LONG);
        due("graphs over an empty one", x.run(x.graphs(5, x.graph(1, wide))), 0);
        int three = x.both(UNION, a, x.both(UNION, a, a));
        due("27 rows for each graph", x.run(x.graphs(5, x.graph(0, three))), TOO_LONG);
        due("27 rows", x.run(three), 27);
    }

    private static void longestLeftJoin() {
        part = "too long, left";
        AlgebraTree x = counted(8);
        for (int i = 0; i < 12; i++) {
            x.triple(0, i, 1, 1);
        }
        int a = x.pattern(-1, 0, 0);
        int b = x.pattern(-2, 1, 1);
        int v1 = variable(x, 1);
        int least = x.apply(LESS, v1, constant(x, 10));
        due("80 of 96 hold", x.run(x.left(a, b, least)), 80);
        due("last row", row(x, 79), "7 9 . . . .");
        due("row behind", row(x, 80), ". . . . . .");
        due("88 hold", x.run(x.left(a, b, x.apply(LESS, v1, constant(x, 11)))), TOO_LONG);
        due("all", x.run(x.left(a, b, NONE)), TOO_LONG);
    }

    /** Every kind of node over 80 rows, the most that there may be. */
    private static void longestLists() {
        part = "80 rows";
        AlgebraTree x = counted(40);
        int a = x.pattern(-1, 0, 0);
        int most = x.both(UNION, a, a);
        int v0 = variable(x, 0);
        int one = constant(x, 1);
        int emptyRow = x.project(x.slice(a, 0, 1), 0);
        due("join", x.run(x.both(JOIN, most, emptyRow)), 80);
        due("union", x.run(x.both(UNION, most, x.pattern(9, 9, 9))), 80);
        due("minus", x.run(x.both(MINUS, most, emptyRow)), 80);
        due("left", x.run(x.left(most, emptyRow, NONE)), 80);
        due("left of none", x.run(x.left(most, x.pattern(9, 9, 9), NONE)), 80);
        due("filter", x.run(x.filter(most, one)), 80);
        due("extend", x.run(x.extend(most, 5, v0)), 80);
        due("last row", row(x, 79), "39 . . . . 39");
        due("project", x.run(x.project(most, 0)), 80);
        due("many", x.many(79), 80);
        due("distinct", x.run(x.distinct(most)), 40);
        due("slice", x.run(x.slice(most, 0, 80)), 80);
        int down = x.order(most, v0, true);
        due("order", x.run(down), 80);
        due("first row", row(x, 1), "39 . . . . .");
        due("last row", row(x, 79), "0 . . . . .");
        due("same", x.same(most, down), true);
        rows(x, x.group(most, 0, 1, v0, 5), ". . . . . 1560");
        due("groups", x.run(x.group(x.extend(most, 5, v0), 33, 0, one, 4)), 40);
        due("graph", x.run(x.graph(0, most)), 80);
        for (int i = 0; i < 20; i++) {
            x.triple(1 + i % 3, i, 1, 1);
        }
        int b = x.pattern(-1, 1, 1);
        int twice = x.both(UNION, b, b);
        due("graphs", x.run(x.graphs(5, x.both(UNION, twice, twice))), 80);
    }

    /** What was there before in the same place must not shine through. */
    private static void rowsUsedAgain() {
        part = "rows used again";
        AlgebraTree x = told(t(1, 7, 1, 7), t(1, 8, 1, 9), t(2, 8, 1, 9), t(0, 3, 1, 3), t(0, 4, 1, 5));
        int loops = x.pattern(-1, 1, -1);
        rows(x, x.graphs(5, loops), "7 . . . . 1");
        int three = x.both(UNION, loops, x.both(UNION, loops, loops));
        due("three", x.run(three), 3);
        due("three alike", x.many(0), 3);
        due("one", x.run(loops), 1);
        due("one alike", x.many(0), 1);
        int all = x.pattern(-1, 1, -2);
        int minus = x.both(MINUS, all, loops);
        int distinct = x.distinct(minus);
        rows(x, distinct, "4 5 . . . .");
        x.triple(0, 5, 1, 5);
        x.triple(0, 5, 1, 4);
        rows(x, distinct, "4 5 . . . .");
        x.triple(0, 2, 1, 4);
        rows(x, distinct, "4 5 . . . .", "2 4 . . . .");
        int free = x.both(MINUS, x.pattern(-1, 1, -2), x.pattern(-3, 2, -1));
        int firstOnly = x.distinct(x.project(free, 1));
        rows(x, firstOnly, "3 . . . . .", "4 . . . . .", "5 . . . . .", "2 . . . . .");
        x.triple(0, 0, 2, 3);
        x.triple(0, 0, 2, 2);
        rows(x, firstOnly, "4 . . . . .", "5 . . . . .");
        x.triple(0, 0, 2, 4);
        x.triple(0, 0, 2, 5);
        rows(x, firstOnly);
        x.triple(0, 4, 1, 6);
        rows(x, firstOnly);
        x.triple(0, 6, 1, 6);
        rows(x, firstOnly, "6 . . . . .");
    }

    private static void nowLongNowShort() {
        part = "now too long, now not";
        AlgebraTree x = counted(9);
        int a = x.pattern(-1, 0, 0);
        int free = x.both(MINUS, a, x.pattern(-1, 1, 1));
        int wide = x.both(JOIN, free, x.pattern(-2, 0, 0));
        int above = x.distinct(wide);
        due("81 rows", x.run(wide), TOO_LONG);
        due("above", x.run(above), TOO_LONG);
        x.triple(0, 4, 1, 1);
        due("72 rows", x.run(above), 72);
        due("row 71", row(x, 71), "8 8 . . . .");
        due("same", x.same(wide, above), true);
        x.triple(0, 9, 0, 0);
        due("90 rows", x.run(above), TOO_LONG);
        due("same", x.same(wide, above), false);
        due("told stays", row(x, 71), "8 8 . . . .");
    }

    private static void values() {
        part = "promise 18";
        AlgebraTree x = told(t(0, 1, 2, 0), t(0, 999, 4, 5));
        x.run(x.pattern(-1, -3, -6));
        due("0, 0", x.value(0, 0), 1);
        due("0, 2", x.value(0, 2), 2);
        due("0, 5 is zero, not open", x.value(0, 5), 0);
        due("1, 0", x.value(1, 0), 999);
        due("open", x.value(1, 1), ERROR);
        for (int bad : new int[] {-1, 2, 80, 81, LOW, HIGH}) {
            due("row " + bad, x.value(bad, 0), ERROR);
        }
        for (int bad : new int[] {-1, 6, LOW, HIGH}) {
            due("variable " + bad, x.value(0, bad), ERROR);
            due("variable " + bad, x.value(1, bad), ERROR);
        }
    }

    private static void looks() {
        part = "promise 19";
        AlgebraTree x = told(t(0, 1, 2, 3), t(0, 6, 2, 5));
        x.run(x.pattern(-1, 2, -2));
        int sum = x.apply(SUM, variable(x, 0), variable(x, 1));
        due("row 0", x.look(0, sum), 4);
        due("row 1", x.look(1, sum), 11);
        due("an error", x.look(0, x.apply(SUM, sum, variable(x, 2))), ERROR);
        due("bound", x.look(0, x.leaf(2, 2)), 0);
        for (int bad : new int[] {-1, 2, 80, 81, LOW, HIGH}) {
            due("row " + bad, x.look(bad, sum), ERROR);
        }
        for (int bad : new int[] {-1, 6, 30, LOW, HIGH}) {
            due("expression " + bad, x.look(0, bad), ERROR);
        }
        due("a constant of no row", x.look(2, constant(x, 1)), ERROR);
    }

    private static void counts() {
        part = "promise 20";
        AlgebraTree x = told(t(0, 1, 2, 3), t(0, 4, 2, 3), t(0, 1, 5, 6), t(0, 0, 2, 2));
        int a = x.pattern(-1, -2, -3);
        x.run(x.both(UNION, x.project(a, 1), x.project(a, 3)));
        int[] want = {2, 1, 2, 1, 1, 1, 1, 1};
        for (int i = 0; i < want.length; i++) {
            due("row " + i, x.many(i), want[i]);
        }
        for (int bad : new int[] {-1, 8, 80, 81, LOW, HIGH}) {
            due("row " + bad, x.many(bad), NONE);
        }
    }

    private static void sameness() {
        part = "promise 21";
        AlgebraTree x = told(t(0, 1, 1, 1), t(0, 2, 1, 2), t(0, 3, 1, 3), t(1, 1, 1, 1));
        int a = x.pattern(-1, 1, -2);
        due("itself", x.same(a, a), true);
        int turned = x.order(a, variable(x, 0), true);
        due("in another order", x.same(a, turned), true);
        int first = x.slice(a, 0, 1);
        int second = x.slice(a, 1, 1);
        int firstTwice = x.both(UNION, x.both(UNION, first, first), second);
        int secondTwice = x.both(UNION, x.both(UNION, first, second), second);
        due("as many, but not as often", x.same(firstTwice, secondTwice), false);
        due("less often", x.same(first, x.both(UNION, first, first)), false);
        due("more often", x.same(x.both(UNION, first, first), first), false);
        due("open or not", x.same(first, x.project(first, 1)), false);
        due("another graph", x.same(first, x.graph(1, a)), true);
        due("none and none", x.same(x.pattern(7, 7, 7), x.pattern(8, 8, 8)), true);
        due("told stays", x.many(0), NONE);
        x.run(second);
        due("same", x.same(a, turned), true);
        due("told stays", row(x, 0), "2 2 . . . .");
        for (int bad : new int[] {-1, 30, LOW, HIGH}) {
            due("first " + bad, x.same(bad, a), false);
            due("second " + bad, x.same(a, bad), false);
            due("both " + bad, x.same(bad, bad), false);
        }
        int wide = x.both(JOIN, x.both(JOIN, x.project(a, 1), x.pattern(-3, 1, -4)),
                x.both(JOIN, x.pattern(-5, 1, -5), x.pattern(-6, 1, -6)));
        due("81 rows", x.run(wide), TOO_LONG);
        due("too long and itself", x.same(wide, wide), false);
        due("too long and another", x.same(wide, a), false);
        due("another and too long", x.same(a, wide), false);
        x.triple(0, 4, 1, 4);
        due("a new triple counts", x.same(first, x.graph(1, a)), true);
        due("a new triple counts", x.same(a, x.slice(a, 0, 3)), false);
        due("told stays", row(x, 0), "2 2 . . . .");
    }

    private static void nodeLimit() {
        part = "node limit";
        AlgebraTree x = told(t(0, 1, 1, 1));
        int e = constant(x, 1);
        int node = x.pattern(-1, 1, 1);
        for (int i = 1; i < 30; i++) {
            node = x.left(node, node, NONE);
            due("node", node, i);
        }
        rows(x, 29, "1 . . . . .");
        due("pattern", x.pattern(0, 0, 0), NONE);
        due("join", x.both(JOIN, 0, 0), NONE);
        due("union", x.both(UNION, 0, 0), NONE);
        due("minus", x.both(MINUS, 0, 0), NONE);
        due("left", x.left(0, 0, NONE), NONE);
        due("filter", x.filter(0, e), NONE);
        due("extend", x.extend(0, 0, e), NONE);
        due("project", x.project(0, 0), NONE);
        due("distinct", x.distinct(0), NONE);
        due("slice", x.slice(0, 0, 0), NONE);
        due("order", x.order(0, e, false), NONE);
        due("group", x.group(0, 0, 0, e, 0), NONE);
        due("graph", x.graph(0, 0), NONE);
        due("graphs", x.graphs(0, 0), NONE);
        rows(x, 29, "1 . . . . .");
    }

    private static void refusalsChangeNothing() {
        part = "refusals";
        AlgebraTree x = told(t(0, 1, 1, 1));
        x.triple(0, 1, 1, 1);
        x.triple(4, 1, 1, 1);
        due("next triple", x.triple(0, 2, 2, 2), 1);
        x.leaf(3, 0);
        x.apply(SUM, 0, 0);
        due("next expression", x.leaf(1, 0), 0);
        x.pattern(-7, 0, 0);
        x.filter(0, 0);
        due("next node", x.pattern(-1, -2, -3), 0);
        x.both(3, 0, 0);
        x.left(0, 0, 1);
        x.filter(0, 1);
        x.extend(0, 6, 0);
        x.project(0, 64);
        x.distinct(1);
        x.slice(0, 0, 1001);
        x.order(0, 1, true);
        x.group(0, 1, 0, 0, 0);
        x.graph(4, 0);
        x.graphs(6, 0);
        due("next node", x.distinct(0), 1);
        rows(x, 1, "1 1 1 . . .", "2 2 2 . . .");
    }

    /** The calls of README.md, with the answers that stand there. */
    private static void exampleOfTheReadme() {
        part = "README.md";
        AlgebraTree x = new AlgebraTree();
        x.triple(0, 1, 7, 20);
        x.triple(0, 2, 7, 30);
        x.triple(1, 2, 8, 5);
        int all = x.pattern(-1, 7, -2);
        int age = variable(x, 1);
        int limit = constant(x, 25);
        int old = x.filter(all, x.apply(LESS, limit, age));
        due("run(old)", x.run(old), 1);
        due("value(0, 0)", x.value(0, 0), 2);
        due("value(0, 5)", x.value(0, 5), ERROR);
        due("look(0, limit)", x.look(0, limit), 25);
        int named = x.graphs(5, x.pattern(-1, 8, -3));
        int more = x.left(all, named, NONE);
        rows(x, more, "1 20 . . . .", "2 30 5 . . 1");
        int oldest = x.group(all, 0, 3, age, 1);
        due("run(oldest)", x.run(oldest), 1);
        due("value(0, 1)", x.value(0, 1), 30);
        due("same(old, all)", x.same(old, all), false);
        due("group", x.group(all, 2, 3, age, 1), NONE);
    }
}
