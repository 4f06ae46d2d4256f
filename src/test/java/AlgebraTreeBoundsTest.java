import java.util.ArrayList;
import java.util.List;

/**
 * Each sentence of the document that names a boundary case, one test for each:
 * the last input that is still such, the first that is not, on both sides, and
 * behind every refused call a look at whether later calls answer as if it had
 * not been made. No object is used for more than 512 calls.
 */
public final class AlgebraTreeBoundsTest {
    private static final int NONE = AlgebraTree.NONE;
    private static final int ERROR = AlgebraTree.ERROR;
    private static final int TOO_LONG = -2;
    private static final int LOW = Integer.MIN_VALUE;
    private static final int HIGH = Integer.MAX_VALUE;
    private static final int BILLION = 1000000000;

    private static final int SUM = 0;
    private static final int DIFFERENCE = 1;
    private static final int PRODUCT = 2;
    private static final int QUOTIENT = 3;
    private static final int LESS = 4;
    private static final int ALIKE = 5;
    private static final int AND = 6;
    private static final int OR = 7;
    private static final int NOT = 8;

    private static final int JOIN = 0;
    private static final int UNION = 1;
    private static final int MINUS = 2;

    private static int wrong = 0;
    private static String sentence = "";

    public static void main(String[] args) {
        terms();
        expressions();
        nodes();
        tooLong();
        promises1To4();
        promises5To16();
        promises17To21();
        System.out.println(wrong == 0 ? "all bounds hold" : wrong + " answers are wrong");
        if (wrong != 0) {
            System.exit(1);
        }
    }

    private static void terms() {
        termsOfTriples();
        graphsOfTriples();
        setsOfTriples();
        sixtyTriplesTogether();
        triplesInTheirOrder();
        variablesOfEveryCall();
        rowsThatAgree();
        firstAndLastTogether();
    }

    private static void expressions() {
        thirtyExpressions();
        openVariables();
        boundVariables();
        sumAtTheLimits();
        differenceAtTheLimits();
        productAtTheLimits();
        quotientTowardsZero();
        quotientByZero();
        lessAndSame();
        errorsOfErrors();
        trueAndFalse();
        andOfErrors();
        orOfErrors();
        notOfOneAlone();
    }

    private static void nodes() {
        thirtyNodes();
        overThoseOfBefore();
        overTwoGraphsAtOnce();
        graphZeroAtTheRoot();
        patternsThatFit();
        joinsOfFew();
        unionsOfFew();
        minusSharesNone();
        leftAlone();
        filtersAtTheLimits();
        extensionsOfOpenOnes();
        projectionsOfAllAndNone();
        distinctOfFew();
        distinctMadeAnew();
        slicesAtTheEnds();
        ordersWithErrors();
        groupsOpenOrNot();
        groupCounts();
        groupSums();
        groupLeastAndGreatest();
        groupsWithoutRows();
        openVariablesOfNodes();
        graphsOneToThree();
    }

    private static void tooLong() {
        unionsOf80And81();
        joinsOf80And81();
        leftJoinsOf80And81();
        graphsOf80And81();
        overOneThatIsTooLong();
        tooLongOverOneGraph();
        tooLongForSomeTime();
    }

    private static void promises1To4() {
        the512thCall();
        newObject();
        tripleRefused();
        leafBounds();
        leafRefused();
        applyRefused();
    }

    private static void promises5To16() {
        patternBounds();
        patternRefused();
        bothRefused();
        leftRefused();
        filterRefused();
        extendRefused();
        projectBounds();
        projectRefused();
        distinctRefused();
        sliceBounds();
        sliceRefused();
        orderRefused();
        groupBounds();
        groupRefused();
        graphBounds();
        graphRefused();
        graphsRefused();
    }

    private static void promises17To21() {
        runRefused();
        runTooLongKeepsRows();
        runOfNoRows();
        valueRefused();
        lookRefused();
        manyRefused();
        manyBounds();
        sameRefused();
        sameWhenTooLong();
        sameBothWaysRound();
        sameKeepsRows();
    }

    // ---- what the tests are made of

    private interface Call {
        Object on(AlgebraTree x);
    }

    private interface Scene {
        AlgebraTree make();
    }

    private static void due(String call, Object got, Object want) {
        if (!got.equals(want)) {
            wrong++;
            System.out.println("\"" + sentence + "\": " + call + " answered " + got + ", due is " + want);
        }
    }

    private static String row(AlgebraTree x, int i) {
        StringBuilder text = new StringBuilder();
        for (int v = 0; v < 6; v++) {
            int value = x.value(i, v);
            text.append(v == 0 ? "" : " ").append(value == ERROR ? "." : "" + value);
        }
        return text.toString();
    }

    private static void rows(AlgebraTree x, int node, String... want) {
        due("run(" + node + ")", x.run(node), want.length);
        List<String> got = new ArrayList<>();
        for (int i = 0; i < want.length; i++) {
            got.add(row(x, i));
        }
        due("rows of " + node, got, List.of(want));
        due("the row behind the last of " + node, row(x, want.length), ". . . . . .");
    }

    /** The first two numbers beside those of lo .. hi, and the two that are farthest from them. */
    private static int[] outside(int lo, int hi) {
        return new int[] {lo - 1, hi + 1, LOW, HIGH};
    }

    /** Three triples, three expressions, eight nodes; the rows of node 1 are told. */
    private static AlgebraTree small() {
        AlgebraTree x = new AlgebraTree();
        x.triple(0, 1, 1, 2);
        x.triple(0, 3, 1, 4);
        x.triple(1, 1, 1, 2);
        x.leaf(0, 7);
        x.leaf(1, 0);
        x.apply(SUM, 0, 1);
        x.pattern(-1, -2, -3);
        x.both(UNION, 0, 0);
        x.graph(1, 0);
        x.graph(2, 0);
        x.graph(3, 0);
        x.graphs(5, 0);
        x.filter(0, 1);
        x.extend(0, 4, 2);
        x.run(1);
        return x;
    }

    private static final int SMALL_TRIPLES = 3;
    private static final int SMALL_EXPRESSIONS = 3;
    private static final int SMALL_NODES = 8;
    private static final int SMALL_ROWS = 4;

    /** 60 triples, 30 expressions, 30 nodes, 80 rows that are told; node 5 is too long. */
    private static AlgebraTree full() {
        AlgebraTree x = new AlgebraTree();
        for (int i = 0; i < 60; i++) {
            x.triple(i < 40 ? 0 : 1 + i % 3, i, i % 5, i % 7);
        }
        x.leaf(0, 3);
        x.leaf(1, 0);
        x.leaf(2, 5);
        for (int i = 3; i < 30; i++) {
            x.apply(i % 9, i - 1, i - 3);
        }
        x.pattern(-1, -2, -3);
        x.both(UNION, 0, 0);
        x.graph(1, 0);
        x.graph(2, 0);
        x.graph(3, 0);
        x.both(UNION, 1, 0);
        x.both(JOIN, 0, 0);
        x.both(MINUS, 0, 2);
        x.left(0, 2, NONE);
        x.filter(0, 4);
        x.extend(1, 3, 3);
        x.project(1, 6);
        x.distinct(11);
        x.slice(1, 39, 2);
        x.order(1, 1, true);
        x.group(1, 4, 1, 1, 5);
        x.graphs(5, 0);
        for (int i = 17; i < 30; i++) {
            x.distinct(i - 15);
        }
        x.run(1);
        return x;
    }

    private static final List<Call> PROBES = List.of(
            AlgebraTreeBoundsTest::toldRows, AlgebraTreeBoundsTest::toldValues,
            AlgebraTreeBoundsTest::allNodes, AlgebraTreeBoundsTest::allTriples,
            AlgebraTreeBoundsTest::allPairs, AlgebraTreeBoundsTest::newOnes);

    private static Object toldRows(AlgebraTree x) {
        List<Object> seen = new ArrayList<>();
        for (int i : new int[] {-1, 0, 1, 2, 3, 4, 39, 40, 78, 79, 80}) {
            seen.add(row(x, i));
            seen.add(x.many(i));
        }
        return seen;
    }

    private static Object toldValues(AlgebraTree x) {
        List<Object> seen = new ArrayList<>();
        for (int e = -1; e <= 30; e++) {
            for (int i : new int[] {0, 3, 79}) {
                seen.add(x.look(i, e));
            }
        }
        return seen;
    }

    private static Object allNodes(AlgebraTree x) {
        List<Object> seen = new ArrayList<>();
        for (int node = -1; node <= 30; node++) {
            int size = x.run(node);
            seen.add(size);
            seen.add(x.value(0, 0));
            seen.add(x.value(0, 5));
            seen.add(x.value(size - 1, 0));
            seen.add(x.value(size - 1, 2));
            seen.add(x.many(0));
        }
        return seen;
    }

    private static Object allTriples(AlgebraTree x) {
        List<Object> seen = new ArrayList<>();
        for (int node : new int[] {0, 2, 3, 4}) {
            int size = x.run(node);
            seen.add(size);
            for (int i = 0; i < size; i++) {
                seen.add(x.value(i, 0) + " " + x.value(i, 1) + " " + x.value(i, 2));
            }
        }
        return seen;
    }

    private static Object allPairs(AlgebraTree x) {
        List<Object> seen = new ArrayList<>();
        for (int node = 0; node <= 30; node++) {
            seen.add(x.same(node, node));
            seen.add(x.same(0, node));
            seen.add(x.same(node, node + 1));
        }
        seen.add(row(x, 0));
        return seen;
    }

    private static Object newOnes(AlgebraTree x) {
        List<Object> seen = new ArrayList<>();
        seen.add(x.triple(0, 500, 1, 500));
        seen.add(x.triple(2, 500, 1, 500));
        int sum = x.apply(SUM, x.leaf(0, 5), 1);
        seen.add(sum);
        seen.add(x.look(0, sum));
        int node = x.extend(x.pattern(-1, 1, -1), 3, sum);
        seen.add(node);
        seen.add(x.run(node));
        seen.add(row(x, 0));
        seen.add(x.run(x.graphs(5, node)));
        seen.add(row(x, 0));
        return seen;
    }

    /** The call answers this, and all that comes later is as without it. */
    private static void refused(String text, Scene scene, Call call, Object answer) {
        due(text, call.on(scene.make()), answer);
        for (int i = 0; i < PROBES.size(); i++) {
            AlgebraTree x = scene.make();
            call.on(x);
            due(text + ", then look " + i, PROBES.get(i).on(x), PROBES.get(i).on(scene.make()));
        }
    }

    private static void refused(String text, Call call) {
        refused(text, AlgebraTreeBoundsTest::small, call, NONE);
    }

    private static void refusedWhenFull(String text, Call call) {
        refused(text, AlgebraTreeBoundsTest::full, call, NONE);
    }

    /** The first n triples of graph 0 with predicate p, s counting up from 0. */
    private static void count(AlgebraTree x, int graph, int p, int n) {
        for (int i = 0; i < n; i++) {
            x.triple(graph, i, p, 0);
        }
    }

    private static AlgebraTree counted(int n) {
        AlgebraTree x = new AlgebraTree();
        count(x, 0, 0, n);
        return x;
    }

    /** One triple and its row 4 . . . . . told, so that expressions can be looked at. */
    private static AlgebraTree oneRow() {
        AlgebraTree x = new AlgebraTree();
        x.triple(0, 4, 0, 0);
        x.run(x.pattern(-1, 0, 0));
        return x;
    }

    /** An expression with any value there may be; ERROR gives one that is an error. */
    private static int number(AlgebraTree x, int value) {
        if (value == ERROR) {
            return x.leaf(1, 5);
        }
        if (Math.abs(value) <= 1000000) {
            return x.leaf(0, value);
        }
        int thousands = x.apply(PRODUCT, x.leaf(0, value / 1000), x.leaf(0, 1000));
        return x.apply(SUM, thousands, x.leaf(0, value % 1000));
    }

    private static int operate(int op, int a, int b) {
        AlgebraTree x = oneRow();
        return x.look(0, x.apply(op, number(x, a), number(x, b)));
    }

    /** A node with one row that has no value. */
    private static int emptyRow(AlgebraTree x) {
        return x.project(x.group(x.pattern(999, 999, 999), 0, 0, x.leaf(0, 0), 0), 0);
    }

    // ---- Terms: triples, variables, rows

    private static void termsOfTriples() {
        sentence = "TERMS are whole numbers; in triples 0 .. 999";
        for (int last : new int[] {0, 999}) {
            AlgebraTree x = new AlgebraTree();
            due("s " + last, x.triple(0, last, 5, 6), 0);
            due("p " + last, x.triple(0, 5, last, 6), 1);
            due("o " + last, x.triple(0, 5, 6, last), 2);
            due("all " + last, x.triple(0, last, last, last), 3);
            rows(x, x.pattern(-1, -2, -3), last + " 5 6 . . .", "5 " + last + " 6 . . .",
                    "5 6 " + last + " . . .", last + " " + last + " " + last + " . . .");
        }
        for (int bad : outside(0, 999)) {
            refused("s " + bad, x -> x.triple(0, bad, 1, 1));
            refused("p " + bad, x -> x.triple(0, 1, bad, 1));
            refused("o " + bad, x -> x.triple(0, 1, 1, bad));
        }
    }

    private static void graphsOfTriples() {
        sentence = "GRAPHS are 0 .. 3";
        AlgebraTree x = new AlgebraTree();
        due("graph 0", x.triple(0, 10, 1, 1), 0);
        due("graph 3", x.triple(3, 13, 1, 1), 1);
        due("graph 1", x.triple(1, 11, 1, 1), 2);
        due("graph 2", x.triple(2, 12, 1, 1), 3);
        int all = x.pattern(-1, 1, 1);
        for (int g = 0; g <= 3; g++) {
            rows(x, x.graph(g, all), 10 + g + " . . . . .");
        }
        for (int bad : outside(0, 3)) {
            refused("triple in graph " + bad, y -> y.triple(bad, 5, 5, 5));
            refused("node over graph " + bad, y -> y.graph(bad, 0));
        }
    }

    private static void setsOfTriples() {
        sentence = "sets of TRIPLES of three terms";
        AlgebraTree x = new AlgebraTree();
        for (int g = 0; g <= 3; g++) {
            due("new in graph " + g, x.triple(g, 1, 2, 3), 4 * g);
            due("other s", x.triple(g, 3, 2, 3), 4 * g + 1);
            due("other p", x.triple(g, 1, 1, 3), 4 * g + 2);
            due("other o", x.triple(g, 1, 2, 1), 4 * g + 3);
        }
        for (int g = 0; g <= 3; g++) {
            due("there in graph " + g, x.triple(g, 1, 2, 3), NONE);
            due("the last one is there in graph " + g, x.triple(g, 1, 2, 1), NONE);
        }
        int all = x.pattern(-1, -2, -3);
        for (int g = 0; g <= 3; g++) {
            rows(x, x.graph(g, all), "1 2 3 . . .", "3 2 3 . . .", "1 1 3 . . .", "1 2 1 . . .");
        }
    }

    private static void sixtyTriplesTogether() {
        sentence = "60 in all graphs together";
        for (int graphs = 1; graphs <= 4; graphs++) {
            AlgebraTree x = new AlgebraTree();
            for (int i = 0; i < 60; i++) {
                due("triple " + i + " of " + graphs + " graphs", x.triple(i % graphs, i, 0, 0), i);
            }
            for (int g = 0; g <= 3; g++) {
                due("one more in graph " + g, x.triple(g, 900, 0, 0), NONE);
                due("one that is there", x.triple(g, g, 0, 0), NONE);
            }
            int all = x.pattern(-1, 0, 0);
            for (int g = 0; g <= 3; g++) {
                due("graph " + g + " of " + graphs, x.run(x.graph(g, all)), g < graphs ? 60 / graphs : 0);
                due("its last one", x.value(60 / graphs - 1, 0), g < graphs ? 60 - graphs + g : ERROR);
            }
        }
        AlgebraTree x = counted(58);
        due("refused before", x.triple(0, 57, 0, 0), NONE);
        due("refused before", x.triple(4, 58, 0, 0), NONE);
        due("the 59th", x.triple(0, 58, 0, 0), 58);
        due("refused before", x.triple(0, 58, 0, 1000), NONE);
        due("the 60th", x.triple(3, 59, 0, 0), 59);
        due("the 61st", x.triple(3, 60, 0, 0), NONE);
        for (int g = 0; g <= 3; g++) {
            int graph = g;
            refusedWhenFull("one more in graph " + g, y -> y.triple(graph, 900, 900, 900));
        }
    }

    private static void triplesInTheirOrder() {
        sentence = "in the order in which they were told";
        AlgebraTree x = new AlgebraTree();
        for (int i = 0; i < 12; i++) {
            x.triple(i % 2, 12 - i, 0, 0);
        }
        int all = x.pattern(-1, 0, 0);
        rows(x, all, "12 . . . . .", "10 . . . . .", "8 . . . . .", "6 . . . . .", "4 . . . . .", "2 . . . . .");
        due("one that is there", x.triple(0, 12, 0, 0), NONE);
        rows(x, x.graph(0, all), "12 . . . . .", "10 . . . . .", "8 . . . . .", "6 . . . . .", "4 . . . . .",
                "2 . . . . .");
    }

    private static void variablesOfEveryCall() {
        sentence = "VARIABLES are 0 .. 5";
        AlgebraTree x = new AlgebraTree();
        x.triple(0, 8, 8, 8);
        x.triple(1, 9, 9, 9);
        int zero = x.leaf(0, 0);
        int nothing = x.pattern(0, 0, 0);
        for (int v : new int[] {0, 5}) {
            String before = v == 0 ? "" : ". . . . . ";
            String behind = v == 0 ? " . . . . ." : "";
            int node = x.pattern(-1 - v, -1 - v, -1 - v);
            rows(x, node, before + 8 + behind);
            due("value of " + v, x.value(0, v), 8);
            due("variable " + v, x.look(0, x.leaf(1, v)), 8);
            due("variable beside it", x.look(0, x.leaf(1, 5 - v)), ERROR);
            due("bound of " + v, x.look(0, x.leaf(2, v)), 1);
            due("bound beside it", x.look(0, x.leaf(2, 5 - v)), 0);
            rows(x, x.extend(x.pattern(8, 8, 8), v, zero), before + 0 + behind);
            rows(x, x.group(nothing, 0, 0, zero, v), before + 0 + behind);
            rows(x, x.graphs(v, x.pattern(9, 9, 9)), before + 1 + behind);
            rows(x, x.project(node, 1 << v), before + 8 + behind);
            rows(x, x.project(node, 63 - (1 << v)), ". . . . . .");
        }
        for (int bad : outside(0, 5)) {
            refused("variable " + bad, y -> y.leaf(1, bad));
            refused("bound of " + bad, y -> y.leaf(2, bad));
            refused("extension with " + bad, y -> y.extend(0, bad, 0));
            refused("group with " + bad, y -> y.group(0, 0, 0, 0, bad));
            refused("graphs by " + bad, y -> y.graphs(bad, 0));
            refused("value of " + bad, AlgebraTreeBoundsTest::small, y -> y.value(0, bad), ERROR);
        }
    }

    private static void rowsThatAgree() {
        sentence = "Two rows AGREE when no variable has different values in them";
        AlgebraTree x = new AlgebraTree();
        x.triple(0, 0, 1, 2);
        x.triple(0, 0, 2, 3);
        x.triple(0, 1, 3, 3);
        int zero = x.pattern(-1, 1, 2);
        int empty = emptyRow(x);
        rows(x, x.both(JOIN, empty, empty), ". . . . . .");
        rows(x, x.both(JOIN, zero, empty), "0 . . . . .");
        rows(x, x.both(JOIN, empty, zero), "0 . . . . .");
        rows(x, x.both(JOIN, zero, x.pattern(-1, 2, -2)), "0 3 . . . .");
        rows(x, x.both(JOIN, zero, x.pattern(-1, 3, -2)));
        rows(x, x.both(JOIN, x.pattern(-1, 3, -2), zero));
        int belowZero = x.extend(empty, 0, x.leaf(0, -1));
        rows(x, x.both(JOIN, belowZero, belowZero), "-1 . . . . .");
        rows(x, x.both(JOIN, belowZero, zero));
        rows(x, x.both(JOIN, x.pattern(-6, 1, 2), x.pattern(-6, 3, 3)));
        rows(x, x.both(JOIN, x.pattern(-5, 1, 2), x.pattern(-6, 3, 3)), ". . . . 0 1");
        int least = x.extend(empty, 5, number(x, -BILLION));
        int greatest = x.extend(empty, 5, number(x, BILLION));
        rows(x, x.both(JOIN, least, greatest));
        rows(x, x.both(JOIN, least, least), ". . . . . -1000000000");
    }

    private static void firstAndLastTogether() {
        sentence = "both TOGETHER have what either has";
        AlgebraTree x = new AlgebraTree();
        x.triple(0, 7, 1, 8);
        x.triple(0, 7, 2, 9);
        int first = x.pattern(-1, 1, 8);
        int last = x.pattern(7, 1, -6);
        int ends = x.pattern(-1, 1, -6);
        int other = x.pattern(-1, 2, -3);
        rows(x, x.both(JOIN, first, last), "7 . . . . 8");
        rows(x, x.both(JOIN, last, first), "7 . . . . 8");
        rows(x, x.both(JOIN, ends, other), "7 . 9 . . 8");
        rows(x, x.both(JOIN, other, ends), "7 . 9 . . 8");
        rows(x, x.left(first, last, NONE), "7 . . . . 8");
        rows(x, x.left(last, first, NONE), "7 . . . . 8");
        int sum = x.apply(ALIKE, x.apply(SUM, x.leaf(1, 0), x.leaf(1, 5)), x.leaf(0, 15));
        rows(x, x.left(first, last, sum), "7 . . . . 8");
        rows(x, x.left(last, first, sum), "7 . . . . 8");
        rows(x, x.both(JOIN, emptyRow(x), ends), "7 . . . . 8");
        rows(x, x.both(JOIN, ends, emptyRow(x)), "7 . . . . 8");
    }

    // ---- Terms: expressions

    private static void thirtyExpressions() {
        sentence = "EXPRESSIONS are numbered from 0 on, 30 at most";
        AlgebraTree x = oneRow();
        for (int e = 0; e < 30; e++) {
            due("expression " + e, e % 3 == 2 ? x.apply(SUM, e - 1, e - 2) : x.leaf(0, e), e);
        }
        due("one more", x.leaf(0, 30), NONE);
        due("the first one", x.look(0, 0), 0);
        due("the last leaf", x.look(0, 28), 28);
        due("the last one", x.look(0, 29), 55);
        due("one beyond", x.look(0, 30), ERROR);
        due("a filter with the last one", x.run(x.filter(0, 29)), 1);
        for (int kind = 0; kind <= 2; kind++) {
            int leaf = kind;
            refusedWhenFull("leaf of kind " + kind, y -> y.leaf(leaf, 0));
        }
        for (int op = SUM; op <= NOT; op++) {
            int operation = op;
            refusedWhenFull("operation " + op, y -> y.apply(operation, 0, 0));
        }
    }

    private static void openVariables() {
        sentence = "a variable (an error when it is open)";
        AlgebraTree x = oneRow();
        due("with a value", x.look(0, x.leaf(1, 0)), 4);
        for (int v = 1; v <= 5; v++) {
            due("open " + v, x.look(0, x.leaf(1, v)), ERROR);
        }
        int third = x.leaf(1, 3);
        int node = 0;
        for (int value : new int[] {0, -1, -BILLION, BILLION}) {
            node = x.extend(0, 3, number(x, value));
            x.run(node);
            due("with the value " + value, x.look(0, third), value);
        }
    }

    private static void boundVariables() {
        sentence = "bound of a variable (1, or 0 when it is open)";
        AlgebraTree x = oneRow();
        due("with a value", x.look(0, x.leaf(2, 0)), 1);
        for (int v = 1; v <= 5; v++) {
            due("open " + v, x.look(0, x.leaf(2, v)), 0);
        }
        int third = x.leaf(2, 3);
        for (int value : new int[] {0, -1, -BILLION, BILLION}) {
            x.run(x.extend(0, 3, number(x, value)));
            due("with the value " + value, x.look(0, third), 1);
        }
    }

    private static void sumAtTheLimits() {
        sentence = "0 sum; errors when the value is not -1000000000 .. 1000000000";
        due("to the greatest", operate(SUM, 999999999, 1), BILLION);
        due("one beyond", operate(SUM, BILLION, 1), ERROR);
        due("one beyond", operate(SUM, 1, BILLION), ERROR);
        due("to the least", operate(SUM, -999999999, -1), -BILLION);
        due("one below", operate(SUM, -BILLION, -1), ERROR);
        due("twice the greatest", operate(SUM, BILLION, BILLION), ERROR);
        due("twice the least", operate(SUM, -BILLION, -BILLION), ERROR);
        due("both ends", operate(SUM, BILLION, -BILLION), 0);
    }

    private static void differenceAtTheLimits() {
        sentence = "1 difference; errors when the value is not -1000000000 .. 1000000000";
        due("to the greatest", operate(DIFFERENCE, 999999999, -1), BILLION);
        due("one beyond", operate(DIFFERENCE, BILLION, -1), ERROR);
        due("to the least", operate(DIFFERENCE, -999999999, 1), -BILLION);
        due("one below", operate(DIFFERENCE, -BILLION, 1), ERROR);
        due("from end to end", operate(DIFFERENCE, BILLION, -BILLION), ERROR);
        due("from end to end", operate(DIFFERENCE, -BILLION, BILLION), ERROR);
        due("0 less the least", operate(DIFFERENCE, 0, -BILLION), BILLION);
        due("0 less the greatest", operate(DIFFERENCE, 0, BILLION), -BILLION);
    }

    private static void productAtTheLimits() {
        sentence = "2 product; errors when the value is not -1000000000 .. 1000000000";
        due("to the greatest", operate(PRODUCT, 1000000, 1000), BILLION);
        due("to the greatest", operate(PRODUCT, -1, -BILLION), BILLION);
        due("1000000001 = 7 * 142857143", operate(PRODUCT, 7, 142857143), ERROR);
        due("-1000000001", operate(PRODUCT, -7, 142857143), ERROR);
        due("to the least", operate(PRODUCT, 1000000, -1000), -BILLION);
        due("2^32 is not 0", operate(PRODUCT, 65536, 65536), ERROR);
        due("2^32 + 1 is not 1", operate(PRODUCT, 641, 6700417), ERROR);
        due("2^31 is no least number", operate(PRODUCT, 65536, 32768), ERROR);
        due("-2^31", operate(PRODUCT, -65536, 32768), ERROR);
        due("the greatest by itself", operate(PRODUCT, BILLION, BILLION), ERROR);
        due("the greatest by the least", operate(PRODUCT, BILLION, -BILLION), ERROR);
        due("the greatest by 0", operate(PRODUCT, BILLION, 0), 0);
    }

    private static void quotientTowardsZero() {
        sentence = "3 quotient towards 0";
        due("7 by 2", operate(QUOTIENT, 7, 2), 3);
        due("-7 by 2", operate(QUOTIENT, -7, 2), -3);
        due("7 by -2", operate(QUOTIENT, 7, -2), -3);
        due("-7 by -2", operate(QUOTIENT, -7, -2), 3);
        due("1 by 2", operate(QUOTIENT, 1, 2), 0);
        due("-1 by 2", operate(QUOTIENT, -1, 2), 0);
        due("0 by -5", operate(QUOTIENT, 0, -5), 0);
        due("the least by -1", operate(QUOTIENT, -BILLION, -1), BILLION);
        due("the greatest by -1", operate(QUOTIENT, BILLION, -1), -BILLION);
        due("the greatest by itself", operate(QUOTIENT, BILLION, BILLION), 1);
        due("nearly the least by the greatest", operate(QUOTIENT, -999999999, BILLION), 0);
    }

    private static void quotientByZero() {
        sentence = "quotient (an error by 0)";
        for (int a : new int[] {0, 1, -1, BILLION, -BILLION, ERROR}) {
            due(a + " by 0", operate(QUOTIENT, a, 0), ERROR);
        }
        due("5 by 1", operate(QUOTIENT, 5, 1), 5);
        due("5 by -1", operate(QUOTIENT, 5, -1), -5);
        AlgebraTree x = oneRow();
        int byZero = x.apply(QUOTIENT, x.leaf(0, 5), x.leaf(0, 0));
        rows(x, x.filter(0, byZero));
        rows(x, x.extend(0, 3, byZero), "4 . . . . .");
    }

    private static void lessAndSame() {
        sentence = "4 whether a is less than b, 5 whether they are the same (1 or 0)";
        int[][] pairs = {{2, 3}, {-1, 0}, {-BILLION, BILLION}, {-BILLION, -999999999}, {999999999, BILLION}};
        for (int[] pair : pairs) {
            due(pair[0] + " < " + pair[1], operate(LESS, pair[0], pair[1]), 1);
            due(pair[1] + " < " + pair[0], operate(LESS, pair[1], pair[0]), 0);
            due(pair[0] + " < " + pair[0], operate(LESS, pair[0], pair[0]), 0);
            due(pair[0] + " = " + pair[1], operate(ALIKE, pair[0], pair[1]), 0);
            due(pair[1] + " = " + pair[1], operate(ALIKE, pair[1], pair[1]), 1);
        }
        due("1000 = 1000", operate(ALIKE, 1000, 1000), 1);
        due("0 = 0", operate(ALIKE, 0, 0), 1);
    }

    private static void errorsOfErrors() {
        sentence = "errors when one of them is";
        for (int op = SUM; op <= ALIKE; op++) {
            for (int other : new int[] {0, 1, BILLION}) {
                due("op " + op + " of an error, " + other, operate(op, ERROR, other), ERROR);
                due("op " + op + " of " + other + ", an error", operate(op, other, ERROR), ERROR);
            }
            due("op " + op + " of two errors", operate(op, ERROR, ERROR), ERROR);
        }
        AlgebraTree x = oneRow();
        int beyond = x.apply(SUM, number(x, BILLION), x.leaf(0, 1));
        int back = x.apply(DIFFERENCE, beyond, x.leaf(0, 1));
        due("beyond and back", x.look(0, back), ERROR);
        due("beyond, the same as itself", x.look(0, x.apply(ALIKE, beyond, beyond)), ERROR);
        due("beyond, times 0", x.look(0, x.apply(PRODUCT, beyond, x.leaf(0, 0))), ERROR);
        due("one less than beyond", x.look(0, x.apply(LESS, x.leaf(0, 1), beyond)), ERROR);
    }

    private static void trueAndFalse() {
        sentence = "TRUE is a value other than 0, FALSE 0";
        for (int value : new int[] {1, -1, 2, BILLION, -BILLION}) {
            due("not " + value, operate(NOT, value, 0), 0);
            due(value + " and 1", operate(AND, value, 1), 1);
            due("1 and " + value, operate(AND, 1, value), 1);
            due(value + " or 0", operate(OR, value, 0), 1);
            due("0 or " + value, operate(OR, 0, value), 1);
            AlgebraTree x = oneRow();
            rows(x, x.filter(0, number(x, value)), "4 . . . . .");
            rows(x, x.left(0, x.extend(0, 5, x.leaf(0, 1)), number(x, value)), "4 . . . . 1");
        }
        due("not 0", operate(NOT, 0, 0), 1);
        due("0 and 1", operate(AND, 0, 1), 0);
        due("0 or 0", operate(OR, 0, 0), 0);
        AlgebraTree x = oneRow();
        int none = x.leaf(0, 0);
        rows(x, x.filter(0, none));
        rows(x, x.left(0, x.extend(0, 5, x.leaf(0, 1)), none), "4 . . . . .");
    }

    private static void andOfErrors() {
        sentence = "6 and: 0 when one is false, else an error when one is, else 1";
        due("false, error", operate(AND, 0, ERROR), 0);
        due("error, false", operate(AND, ERROR, 0), 0);
        due("false, false", operate(AND, 0, 0), 0);
        due("false, true", operate(AND, 0, 5), 0);
        due("true, false", operate(AND, 5, 0), 0);
        due("true, error", operate(AND, 5, ERROR), ERROR);
        due("error, true", operate(AND, ERROR, 5), ERROR);
        due("error, error", operate(AND, ERROR, ERROR), ERROR);
        due("true, true", operate(AND, 5, -5), 1);
        due("bits that do not meet", operate(AND, 1, 2), 1);
    }

    private static void orOfErrors() {
        sentence = "7 or: 1 when one is true, else an error when one is, else 0";
        due("true, error", operate(OR, 5, ERROR), 1);
        due("error, true", operate(OR, ERROR, -5), 1);
        due("true, true", operate(OR, 5, 5), 1);
        due("opposite ones", operate(OR, 5, -5), 1);
        due("true, false", operate(OR, -5, 0), 1);
        due("false, true", operate(OR, 0, -5), 1);
        due("false, error", operate(OR, 0, ERROR), ERROR);
        due("error, false", operate(OR, ERROR, 0), ERROR);
        due("error, error", operate(OR, ERROR, ERROR), ERROR);
        due("false, false", operate(OR, 0, 0), 0);
    }

    private static void notOfOneAlone() {
        sentence = "8 not of a (b is not looked at): 1 of false, 0 of true";
        due("of an error", operate(NOT, ERROR, 1), ERROR);
        due("of false beside an error", operate(NOT, 0, ERROR), 1);
        due("of true beside an error", operate(NOT, 1, ERROR), 0);
        AlgebraTree x = oneRow();
        int zero = x.leaf(0, 0);
        int next = 1;
        for (int none : new int[] {-1, 5, 29, 30, LOW, HIGH}) {
            int e = x.apply(NOT, zero, none);
            due("beside none such: " + none, e, next++);
            due("its value", x.look(0, e), 1);
        }
    }

    // ---- Terms: nodes

    /** Every kind of node over node a and expression e; the two are the last ones that a call may name. */
    private static List<Call> everyKind(int a, int e) {
        return List.of(
                x -> x.both(JOIN, a, a), x -> x.both(UNION, a, a), x -> x.both(MINUS, a, a),
                x -> x.left(a, a, NONE), x -> x.left(a, a, e), x -> x.filter(a, e), x -> x.extend(a, 0, e),
                x -> x.project(a, 63), x -> x.distinct(a), x -> x.slice(a, 0, 1), x -> x.order(a, e, false),
                x -> x.order(a, e, true), x -> x.group(a, 0, 0, e, 0), x -> x.graph(0, a), x -> x.graphs(5, a));
    }

    private static void thirtyNodes() {
        sentence = "NODES are numbered from 0 on, 30 at most";
        for (Call last : everyKind(28, 0)) {
            AlgebraTree x = oneRow();
            x.leaf(0, 1);
            for (int i = 1; i < 29; i++) {
                due("node " + i, x.distinct(i - 1), i);
            }
            due("the 30th", last.on(x), 29);
            due("it can be run", x.run(29) >= 0, true);
            due("the 31st", last.on(x), NONE);
            due("the 31st is not there", x.run(30), NONE);
            due("nor is it the same as the 30th", x.same(29, 30), false);
        }
        AlgebraTree x = new AlgebraTree();
        for (int i = 0; i < 30; i++) {
            due("pattern " + i, x.pattern(i, -1, -1), i);
        }
        due("pattern 30", x.pattern(30, -1, -1), NONE);
        refusedWhenFull("pattern", y -> y.pattern(0, 0, 0));
        List<Call> kinds = everyKind(0, 0);
        for (int i = 0; i < kinds.size(); i++) {
            refusedWhenFull("kind " + i, kinds.get(i));
        }
    }

    private static void overThoseOfBefore() {
        sentence = "each over nodes and expressions of before";
        List<Call> kinds = everyKind(SMALL_NODES - 1, SMALL_EXPRESSIONS - 1);
        for (int i = 0; i < kinds.size(); i++) {
            due("over the last ones, kind " + i, kinds.get(i).on(small()), SMALL_NODES);
        }
        List<Call> itself = everyKind(SMALL_NODES, 0);
        for (int i = 0; i < itself.size(); i++) {
            refused("over itself, kind " + i, itself.get(i));
        }
        due("operation over the last one",
                small().apply(SUM, SMALL_EXPRESSIONS - 1, SMALL_EXPRESSIONS - 1), SMALL_EXPRESSIONS);
        for (int op = SUM; op <= NOT; op++) {
            int operation = op;
            refused("over itself, op " + op, x -> x.apply(operation, SMALL_EXPRESSIONS, 0));
            if (op != NOT) {
                refused("over itself, op " + op, x -> x.apply(operation, 0, SMALL_EXPRESSIONS));
            }
        }
    }

    private static void overTwoGraphsAtOnce() {
        sentence = "What a node is, over a graph G";
        AlgebraTree x = new AlgebraTree();
        for (int g = 0; g <= 3; g++) {
            x.triple(g, 10 + g, 0, 0);
        }
        int all = x.pattern(-1, 0, 0);
        int none = x.pattern(9, 9, 9);
        int third = x.graph(3, all);
        int both = x.both(UNION, all, third);
        rows(x, both, "10 . . . . .", "13 . . . . .");
        rows(x, x.both(UNION, third, all), "13 . . . . .", "10 . . . . .");
        rows(x, x.both(UNION, none, x.graph(2, x.both(UNION, none, all))), "12 . . . . .");
        rows(x, x.both(UNION, x.graph(2, x.both(UNION, none, all)), x.both(UNION, none, all)),
                "12 . . . . .", "10 . . . . .");
        rows(x, x.graph(1, both), "11 . . . . .", "13 . . . . .");
        rows(x, x.both(UNION, both, x.graph(1, x.both(UNION, none, both))),
                "10 . . . . .", "13 . . . . .", "11 . . . . .", "13 . . . . .");
    }

    private static void graphZeroAtTheRoot() {
        sentence = "over a graph G (0 at the root)";
        AlgebraTree x = new AlgebraTree();
        x.triple(1, 1, 1, 1);
        x.triple(3, 3, 3, 3);
        int all = x.pattern(-1, -1, -1);
        rows(x, all);
        due("same as none", x.same(all, x.pattern(9, 9, 9)), true);
        x.triple(0, 7, 7, 7);
        rows(x, all, "7 . . . . .");
        rows(x, x.graph(0, x.graph(3, all)), "3 . . . . .");
        rows(x, x.graph(3, x.graph(0, all)), "7 . . . . .");
        due("same over graph 0", x.same(all, x.graph(0, all)), true);
        due("not over graph 1", x.same(all, x.graph(1, all)), false);
    }

    private static void patternsThatFit() {
        sentence = "that fits (terms the same; a variable that is there twice at the same terms)";
        AlgebraTree x = new AlgebraTree();
        x.triple(0, 0, 0, 0);
        x.triple(0, 999, 999, 0);
        x.triple(0, 999, 0, 999);
        x.triple(0, 0, 999, 999);
        rows(x, x.pattern(-1, -1, -1), "0 . . . . .");
        rows(x, x.pattern(-6, -6, -1), "0 . . . . 0", "0 . . . . 999");
        rows(x, x.pattern(-6, -1, -6), "0 . . . . 0", "0 . . . . 999");
        rows(x, x.pattern(-1, -6, -6), "0 . . . . 0", "0 . . . . 999");
        rows(x, x.pattern(0, 0, 0), ". . . . . .");
        rows(x, x.pattern(999, 999, 0), ". . . . . .");
        rows(x, x.pattern(999, 999, 999));
        rows(x, x.pattern(0, -1, 0), "0 . . . . .");
        rows(x, x.pattern(999, -1, -1));
        rows(x, x.pattern(1, -1, -2));
        AlgebraTree none = new AlgebraTree();
        rows(none, none.pattern(-1, -2, -3));
    }

    private static void joinsOfFew() {
        sentence = "join a b: for each row of a, for each of b that agrees with it";
        AlgebraTree x = counted(2);
        int two = x.pattern(-1, 0, 0);
        int other = x.pattern(-2, 0, 0);
        int none = x.pattern(9, 9, 9);
        rows(x, x.both(JOIN, none, none));
        rows(x, x.both(JOIN, two, none));
        rows(x, x.both(JOIN, none, two));
        rows(x, x.both(JOIN, two, other), "0 0 . . . .", "0 1 . . . .", "1 0 . . . .", "1 1 . . . .");
        rows(x, x.both(JOIN, other, two), "0 0 . . . .", "1 0 . . . .", "0 1 . . . .", "1 1 . . . .");
    }

    private static void unionsOfFew() {
        sentence = "union: rows of a, then of b";
        AlgebraTree x = counted(2);
        int two = x.pattern(-1, 0, 0);
        int none = x.pattern(9, 9, 9);
        rows(x, x.both(UNION, none, none));
        rows(x, x.both(UNION, two, none), "0 . . . . .", "1 . . . . .");
        rows(x, x.both(UNION, none, two), "0 . . . . .", "1 . . . . .");
        rows(x, x.both(UNION, two, two), "0 . . . . .", "1 . . . . .", "0 . . . . .", "1 . . . . .");
    }

    private static void minusSharesNone() {
        sentence = "minus: but for those of b that share no variable with a value with it";
        AlgebraTree x = counted(2);
        int two = x.pattern(-1, 0, 0);
        int none = x.pattern(9, 9, 9);
        int empty = emptyRow(x);
        rows(x, x.both(MINUS, two, none), "0 . . . . .", "1 . . . . .");
        rows(x, x.both(MINUS, none, two));
        rows(x, x.both(MINUS, two, two));
        rows(x, x.both(MINUS, two, empty), "0 . . . . .", "1 . . . . .");
        rows(x, x.both(MINUS, empty, two), ". . . . . .");
        rows(x, x.both(MINUS, empty, empty), ". . . . . .");
        rows(x, x.both(MINUS, two, x.pattern(-6, 0, 0)), "0 . . . . .", "1 . . . . .");
        rows(x, x.both(MINUS, two, x.slice(two, 0, 1)), "1 . . . . .");
        int emptyFirst = x.both(UNION, empty, x.slice(two, 1, 1));
        rows(x, x.both(MINUS, two, emptyFirst), "0 . . . . .");
        int emptyLast = x.both(UNION, x.slice(two, 1, 1), empty);
        rows(x, x.both(MINUS, two, emptyLast), "0 . . . . .");
        int last = x.pattern(-6, 0, 0);
        rows(x, x.both(MINUS, last, last));
    }

    private static void leftAlone() {
        sentence = "left: (all, when e is NONE); if there is none of these, the row itself";
        AlgebraTree x = counted(2);
        x.triple(0, 0, 1, 5);
        x.triple(0, 0, 1, 6);
        int two = x.pattern(-1, 0, 0);
        int more = x.pattern(-1, 1, -2);
        int none = x.pattern(9, 9, 9);
        int zero = x.leaf(0, 0);
        int fifth = x.leaf(1, 5);
        rows(x, x.left(two, more, NONE), "0 5 . . . .", "0 6 . . . .", "1 . . . . .");
        rows(x, x.left(two, none, NONE), "0 . . . . .", "1 . . . . .");
        rows(x, x.left(none, two, NONE));
        rows(x, x.left(none, none, NONE));
        rows(x, x.left(two, more, zero), "0 . . . . .", "1 . . . . .");
        rows(x, x.left(two, more, fifth), "0 . . . . .", "1 . . . . .");
        int six = x.apply(ALIKE, x.leaf(1, 1), x.leaf(0, 6));
        rows(x, x.left(two, more, six), "0 6 . . . .", "1 . . . . .");
        rows(x, x.left(two, emptyRow(x), NONE), "0 . . . . .", "1 . . . . .");
        rows(x, x.left(emptyRow(x), two, NONE), "0 . . . . .", "1 . . . . .");
    }

    private static void filtersAtTheLimits() {
        sentence = "filter a e: rows for which e is true";
        AlgebraTree x = counted(3);
        int three = x.pattern(-1, 0, 0);
        rows(x, x.filter(x.pattern(9, 9, 9), x.leaf(0, 1)));
        rows(x, x.filter(three, x.leaf(0, 0)));
        rows(x, x.filter(three, x.leaf(1, 5)));
        rows(x, x.filter(three, x.leaf(0, -1)), "0 . . . . .", "1 . . . . .", "2 . . . . .");
        int least = x.apply(SUM, x.leaf(1, 0), number(x, 999999999));
        rows(x, x.filter(three, least), "0 . . . . .", "1 . . . . .");
        int byRow = x.apply(QUOTIENT, x.leaf(0, 1), x.leaf(1, 0));
        rows(x, x.filter(three, byRow), "1 . . . . .");
    }

    private static void extensionsOfOpenOnes() {
        sentence = "extend a v e: where v is open and e is no error, v has e's value";
        AlgebraTree x = counted(2);
        int two = x.pattern(-1, 0, 0);
        rows(x, x.extend(x.pattern(9, 9, 9), 3, x.leaf(0, 1)));
        int last = x.extend(two, 5, number(x, BILLION));
        rows(x, last, "0 . . . . 1000000000", "1 . . . . 1000000000");
        rows(x, x.extend(last, 5, x.leaf(0, 7)), "0 . . . . 1000000000", "1 . . . . 1000000000");
        rows(x, x.extend(two, 5, number(x, -BILLION)), "0 . . . . -1000000000", "1 . . . . -1000000000");
        int beyond = x.apply(SUM, x.leaf(1, 0), number(x, BILLION));
        rows(x, x.extend(two, 5, beyond), "0 . . . . 1000000000", "1 . . . . .");
        rows(x, x.extend(two, 0, x.leaf(0, 9)), "0 . . . . .", "1 . . . . .");
        int zero = x.extend(two, 4, x.leaf(0, 0));
        rows(x, x.extend(zero, 4, x.leaf(0, 9)), "0 . . . 0 .", "1 . . . 0 .");
        int belowZero = x.extend(two, 4, x.leaf(0, -1));
        rows(x, x.extend(belowZero, 4, x.leaf(0, 9)), "0 . . . -1 .", "1 . . . -1 .");
    }

    private static void projectionsOfAllAndNone() {
        sentence = "project a SET: variables whose bits are not set in the SET open";
        AlgebraTree x = new AlgebraTree();
        x.triple(0, 10, 11, 12);
        int all = x.both(JOIN, x.pattern(-1, -2, -3), x.pattern(-4, -5, -6));
        rows(x, x.project(all, 0), ". . . . . .");
        rows(x, x.project(all, 63), "10 11 12 10 11 12");
        rows(x, x.project(all, 1), "10 . . . . .");
        rows(x, x.project(all, 32), ". . . . . 12");
        rows(x, x.project(all, 62), ". 11 12 10 11 12");
        rows(x, x.project(all, 31), "10 11 12 10 11 .");
        rows(x, x.project(x.pattern(9, 9, 9), 63));
    }

    private static void distinctOfFew() {
        sentence = "distinct a: rows but those that are the same as one before";
        AlgebraTree x = counted(2);
        int two = x.pattern(-1, 0, 0);
        int first = x.slice(two, 0, 1);
        rows(x, x.distinct(x.pattern(9, 9, 9)));
        rows(x, x.distinct(first), "0 . . . . .");
        rows(x, x.distinct(x.both(UNION, two, first)), "0 . . . . .", "1 . . . . .");
        int empty = x.project(first, 0);
        rows(x, x.distinct(x.both(UNION, empty, x.both(UNION, first, empty))), ". . . . . .", "0 . . . . .");
        int last = x.both(UNION, x.pattern(-6, 0, 0), x.extend(empty, 5, x.leaf(0, -1)));
        rows(x, x.distinct(x.both(UNION, last, last)), ". . . . . 0", ". . . . . 1", ". . . . . -1");
    }

    private static void distinctMadeAnew() {
        sentence = "distinct a: what is no more among the rows is not one before";
        AlgebraTree x = counted(2);
        int free = x.both(MINUS, x.pattern(-1, 0, 0), x.pattern(-1, 1, -2));
        int distinct = x.distinct(free);
        rows(x, distinct, "0 . . . . .", "1 . . . . .");
        x.triple(1, 0, 0, 0);
        rows(x, distinct, "0 . . . . .", "1 . . . . .");
        x.triple(0, 0, 1, 0);
        rows(x, distinct, "1 . . . . .");
        x.triple(0, 1, 1, 0);
        rows(x, distinct);
        x.triple(0, 2, 0, 0);
        rows(x, distinct, "2 . . . . .");
        due("one row", x.many(0), 1);
        due("same", x.same(free, distinct), true);
    }

    private static void slicesAtTheEnds() {
        sentence = "slice a from n: n rows at most, from row FROM on (the first is 0)";
        AlgebraTree x = counted(3);
        int three = x.pattern(-1, 0, 0);
        rows(x, x.slice(three, 0, 0));
        rows(x, x.slice(three, 0, 1), "0 . . . . .");
        rows(x, x.slice(three, 0, 2), "0 . . . . .", "1 . . . . .");
        rows(x, x.slice(three, 0, 3), "0 . . . . .", "1 . . . . .", "2 . . . . .");
        rows(x, x.slice(three, 0, 4), "0 . . . . .", "1 . . . . .", "2 . . . . .");
        rows(x, x.slice(three, 1, 1), "1 . . . . .");
        rows(x, x.slice(three, 2, 1), "2 . . . . .");
        rows(x, x.slice(three, 2, 2), "2 . . . . .");
        rows(x, x.slice(three, 2, 0));
        rows(x, x.slice(three, 3, 1));
        rows(x, x.slice(three, 4, 1000));
        rows(x, x.slice(x.pattern(9, 9, 9), 0, 1000));
        AlgebraTree y = counted(40);
        int forty = y.pattern(-1, 0, 0);
        int most = y.both(UNION, forty, forty);
        due("all 80", y.run(y.slice(most, 0, 80)), 80);
        due("79 of 80", y.run(y.slice(most, 0, 79)), 79);
        rows(y, y.slice(most, 79, 1000), "39 . . . . .");
        rows(y, y.slice(most, 80, 1000));
        rows(y, y.slice(most, 39, 2), "39 . . . . .", "0 . . . . .");
    }

    private static void ordersWithErrors() {
        sentence = "errors first, then the lesser values (down is true: the other way round, errors last); "
                + "rows alike stay in their order";
        AlgebraTree x = counted(6);
        int six = x.pattern(-1, 0, 0);
        int v0 = x.leaf(1, 0);
        int one = x.leaf(0, 1);
        int most = number(x, BILLION);
        int times = x.apply(DIFFERENCE, x.apply(PRODUCT, v0, most), most);
        // By row: -1000000000, an error, 0, 1000000000, an error, 0.
        int sign = x.apply(DIFFERENCE, x.apply(ALIKE, v0, x.leaf(0, 3)), x.apply(LESS, v0, one));
        int noRow1 = x.apply(DIFFERENCE, v0, one);
        int noRow4 = x.apply(DIFFERENCE, v0, x.leaf(0, 4));
        int zero = x.apply(QUOTIENT, x.leaf(0, 0), x.apply(PRODUCT, noRow1, noRow4));
        int key = x.apply(SUM, x.apply(PRODUCT, sign, most), zero);
        rows(x, x.order(six, key, false), "1 . . . . .", "4 . . . . .", "0 . . . . .", "2 . . . . .",
                "5 . . . . .", "3 . . . . .");
        rows(x, x.order(six, key, true), "3 . . . . .", "2 . . . . .", "5 . . . . .", "0 . . . . .",
                "1 . . . . .", "4 . . . . .");
        rows(x, x.order(six, times, false), "2 . . . . .", "3 . . . . .", "4 . . . . .", "5 . . . . .",
                "0 . . . . .", "1 . . . . .");
        rows(x, x.order(x.slice(six, 1, 2), x.leaf(1, 5), true), "1 . . . . .", "2 . . . . .");
        rows(x, x.order(x.slice(six, 1, 2), 0, false), "1 . . . . .", "2 . . . . .");
        rows(x, x.order(x.slice(six, 1, 2), 0, true), "2 . . . . .", "1 . . . . .");
        rows(x, x.order(x.pattern(9, 9, 9), 0, true));
        rows(x, x.order(x.slice(six, 5, 1), 0, false), "5 . . . . .");
    }

    private static void groupsOpenOrNot() {
        sentence = "rows that are the same in the SET's variables (open or not) are a group; "
                + "groups in the order of their first rows";
        AlgebraTree x = counted(2);
        int two = x.pattern(-1, 0, 0);
        int empty = x.project(two, 0);
        int one = x.leaf(0, 1);
        int mixed = x.both(UNION, x.both(UNION, empty, two), x.both(UNION, two, empty));
        rows(x, x.group(mixed, 1, 0, one, 5), ". . . . . 4", "0 . . . . 2", "1 . . . . 2");
        rows(x, x.group(mixed, 0, 0, one, 5), ". . . . . 8");
        rows(x, x.group(mixed, 30, 0, one, 0), "8 . . . . .");
        rows(x, x.group(mixed, 62, 0, one, 0), "8 . . . . .");
        rows(x, x.group(mixed, 31, 0, one, 5), ". . . . . 4", "0 . . . . 2", "1 . . . . 2");
        int last = x.extend(mixed, 5, x.leaf(1, 0));
        rows(x, x.group(last, 32, 0, one, 0), "4 . . . . .", "2 . . . . 0", "2 . . . . 1");
        int belowZero = x.both(UNION, empty, x.extend(empty, 0, x.leaf(0, -1)));
        rows(x, x.group(belowZero, 1, 0, one, 5), ". . . . . 2", "-1 . . . . 2");
    }

    private static void groupCounts() {
        sentence = "w = 0 how many have no error in e";
        AlgebraTree x = counted(3);
        int three = x.pattern(-1, 0, 0);
        int v0 = x.leaf(1, 0);
        rows(x, x.group(three, 0, 0, x.leaf(1, 5), 5), ". . . . . 0");
        rows(x, x.group(three, 0, 0, v0, 5), ". . . . . 3");
        rows(x, x.group(three, 0, 0, x.apply(QUOTIENT, v0, v0), 5), ". . . . . 2");
        rows(x, x.group(three, 0, 0, x.leaf(0, 0), 5), ". . . . . 3");
        int third = x.extend(three, 1, x.apply(QUOTIENT, v0, x.leaf(0, 2)));
        rows(x, x.group(third, 2, 0, x.apply(QUOTIENT, v0, v0), 5), ". 0 . . . 1", ". 1 . . . 1");
        AlgebraTree y = counted(40);
        int forty = y.pattern(-1, 0, 0);
        rows(y, y.group(y.both(UNION, forty, forty), 0, 0, y.leaf(1, 0), 0), "80 . . . . .");
    }

    private static void groupSums() {
        sentence = "1 the sum of e: open when one is an error, or the sum is not -1000000000 .. 1000000000 at its end";
        AlgebraTree x = counted(3);
        int three = x.pattern(-1, 0, 0);
        int two = x.slice(three, 0, 2);
        int v0 = x.leaf(1, 0);
        int most = number(x, BILLION);
        rows(x, x.group(three, 0, 1, x.leaf(1, 5), 5), ". . . . . .");
        rows(x, x.group(three, 0, 1, x.apply(QUOTIENT, v0, v0), 5), ". . . . . .");
        rows(x, x.group(three, 0, 1, v0, 5), ". . . . . 3");
        int half = number(x, BILLION / 2);
        rows(x, x.group(two, 0, 1, half, 5), ". . . . . 1000000000");
        int halfUp = x.apply(SUM, half, v0);
        rows(x, x.group(two, 0, 1, halfUp, 5), ". . . . . .");
        int zero = x.leaf(0, 0);
        rows(x, x.group(two, 0, 1, x.apply(DIFFERENCE, zero, half), 5), ". . . . . -1000000000");
        rows(x, x.group(two, 0, 1, x.apply(DIFFERENCE, zero, halfUp), 5), ". . . . . .");
        // By row: 1000000000, 1000000000, -1000000000: beyond on the way, not at the end.
        int third = x.apply(QUOTIENT, v0, x.leaf(0, 2));
        int sign = x.apply(DIFFERENCE, x.leaf(0, 1), x.apply(SUM, third, third));
        rows(x, x.group(three, 0, 1, x.apply(PRODUCT, sign, most), 5), ". . . . . 1000000000");
        rows(x, x.group(three, 0, 1, most, 5), ". . . . . .");
        AlgebraTree y = counted(32);
        int all = y.pattern(-1, 0, 0);
        int sixtyFour = y.both(UNION, all, all);
        rows(y, y.group(sixtyFour, 0, 1, number(y, 1 << 26), 5), ". . . . . .");
        rows(y, y.group(sixtyFour, 0, 1, number(y, -1 << 26), 5), ". . . . . .");
        rows(y, y.group(sixtyFour, 0, 1, number(y, 15625000), 5), ". . . . . 1000000000");
        rows(y, y.group(sixtyFour, 0, 1, number(y, -15625000), 5), ". . . . . -1000000000");
    }

    private static void groupLeastAndGreatest() {
        sentence = "2 the least, 3 the greatest: open when one is an error";
        AlgebraTree x = counted(3);
        int three = x.pattern(-1, 0, 0);
        int v0 = x.leaf(1, 0);
        for (int w = 2; w <= 3; w++) {
            rows(x, x.group(three, 0, w, x.leaf(1, 5), 5), ". . . . . .");
            rows(x, x.group(three, 0, w, x.apply(QUOTIENT, v0, v0), 5), ". . . . . .");
        }
        rows(x, x.group(three, 0, 2, v0, 5), ". . . . . 0");
        rows(x, x.group(three, 0, 3, v0, 5), ". . . . . 2");
        int negative = x.apply(DIFFERENCE, x.leaf(0, -1), v0);
        rows(x, x.group(three, 0, 2, negative, 5), ". . . . . -3");
        rows(x, x.group(three, 0, 3, negative, 5), ". . . . . -1");
        AlgebraTree y = counted(2);
        int two = y.pattern(-1, 0, 0);
        int most = number(y, BILLION);
        int least = number(y, -BILLION);
        rows(y, y.group(two, 0, 2, most, 5), ". . . . . 1000000000");
        rows(y, y.group(two, 0, 3, most, 5), ". . . . . 1000000000");
        rows(y, y.group(two, 0, 2, least, 5), ". . . . . -1000000000");
        rows(y, y.group(two, 0, 3, least, 5), ". . . . . -1000000000");
    }

    private static void groupsWithoutRows() {
        sentence = "Without rows there is one group when the SET is empty, else none";
        AlgebraTree x = counted(1);
        int none = x.pattern(9, 9, 9);
        int one = x.leaf(0, 1);
        int open = x.leaf(1, 4);
        for (int e : new int[] {one, open}) {
            rows(x, x.group(none, 0, 0, e, 5), ". . . . . 0");
            rows(x, x.group(none, 0, 1, e, 5), ". . . . . 0");
            rows(x, x.group(none, 0, 2, e, 5), ". . . . . .");
            rows(x, x.group(none, 0, 3, e, 5), ". . . . . .");
        }
        for (int w = 0; w <= 3; w++) {
            rows(x, x.group(none, 1, w, one, 5));
            rows(x, x.group(none, 62, w, one, 0));
        }
        rows(x, x.group(x.pattern(0, 0, 0), 0, 0, one, 0), "1 . . . . .");
        int byGraph = x.group(x.pattern(-1, 0, 0), 0, 0, one, 1);
        rows(x, x.graphs(5, byGraph), ". 0 . . . 1", ". 0 . . . 2", ". 0 . . . 3");
        AlgebraTree y = new AlgebraTree();
        int count = y.group(y.pattern(-1, -2, -3), 0, 0, y.leaf(0, 1), 5);
        rows(y, count, ". . . . . 0");
        rows(y, y.graph(3, count), ". . . . . 0");
        due("without a triple", y.same(count, y.graph(3, count)), true);
        y.triple(0, 1, 1, 1);
        rows(y, count, ". . . . . 1");
        rows(y, y.graph(3, count), ". . . . . 0");
    }

    private static void graphsOneToThree() {
        sentence = "graphs v a: for each graph 1, 2, 3 in turn, the rows in which v is open or has that graph's number";
        AlgebraTree x = new AlgebraTree();
        for (int g = 0; g <= 3; g++) {
            for (int term = 0; term <= 4; term++) {
                x.triple(g, term, 10 + g, 0);
            }
        }
        rows(x, x.graphs(0, x.pattern(-1, -2, 0)), "1 11 . . . .", "2 12 . . . .", "3 13 . . . .");
        rows(x, x.graphs(5, x.pattern(4, -2, 0)), ". 11 . . . 1", ". 12 . . . 2", ". 13 . . . 3");
        rows(x, x.graphs(5, x.pattern(-6, 10, 0)));
        rows(x, x.graphs(5, x.pattern(-6, 13, 0)), ". . . . . 3");
        rows(x, x.graphs(5, x.graph(0, x.pattern(-6, 10, 0))), ". . . . . 1", ". . . . . 2", ". . . . . 3");
        rows(x, x.graph(2, x.graphs(5, x.pattern(3, -1, 0))), "11 . . . . 1", "12 . . . . 2", "13 . . . . 3");
        rows(x, x.graphs(4, x.graphs(5, x.pattern(3, 11, 0))), ". . . . 1 1", ". . . . 2 1", ". . . . 3 1");
        rows(x, x.graphs(5, x.graphs(5, x.pattern(3, 13, 0))), ". . . . . 3");
    }

    /** Variable 5 is open in the first row of the node: no value, and not one that only looks like none. */
    private static void open(String text, Call call) {
        AlgebraTree x = counted(2);
        int node = (Integer) call.on(x);
        due(text + ": has rows", x.run(node) > 0, true);
        due(text + ": value", x.value(0, 5), ERROR);
        due(text + ": the variable", x.look(0, x.leaf(1, 5)), ERROR);
        due(text + ": bound", x.look(0, x.leaf(2, 5)), 0);
        int seven = x.leaf(0, 7);
        x.run(x.extend(node, 5, seven));
        due(text + ": an extension fills it", x.value(0, 5), 7);
        int first = x.project(x.slice(node, 0, 1), 32);
        int row = x.project(x.extend(x.pattern(0, 0, 0), 5, seven), 32);
        rows(x, x.both(JOIN, first, row), ". . . . . 7");
        rows(x, x.both(JOIN, row, first), ". . . . . 7");
        rows(x, x.both(MINUS, first, row), ". . . . . .");
        rows(x, x.both(MINUS, row, first), ". . . . . 7");
        rows(x, x.graphs(5, x.graph(0, first)), ". . . . . 1", ". . . . . 2", ". . . . . 3");
        due(text + ": same", x.same(first, x.project(row, 0)), true);
    }

    private static void openVariablesOfNodes() {
        sentence = "A ROW gives some variables a value each, the others are OPEN in it";
        open("pattern", x -> x.pattern(-1, 0, 0));
        open("pattern of the last but one", x -> x.pattern(-5, 0, 0));
        open("project", x -> x.project(x.pattern(-6, 0, 0), 31));
        open("left without another row", x -> x.left(x.pattern(-1, 0, 0), x.pattern(-6, 9, 9), NONE));
        open("left with a row that does not hold", x -> x.left(x.pattern(-1, 0, 0), x.pattern(-6, 0, 0), x.leaf(0, 0)));
        sentence = "extend: where e is an error, v stays open";
        open("an open variable", x -> x.extend(x.pattern(-1, 0, 0), 5, x.leaf(1, 4)));
        open("itself", x -> x.extend(x.pattern(-1, 0, 0), 5, x.leaf(1, 5)));
        open("by 0", x -> x.extend(x.pattern(-1, 0, 0), 5, x.apply(QUOTIENT, x.leaf(0, 1), x.leaf(1, 0))));
        open("beyond", x -> x.extend(x.pattern(-1, 0, 0), 5, x.apply(SUM, number(x, BILLION), x.leaf(0, 1))));
        sentence = "group: v is open when one is an error (w > 0)";
        for (int w = 1; w <= 3; w++) {
            int fixed = w;
            open("w " + w, x -> x.group(x.pattern(-1, 0, 0), 0, fixed, x.leaf(1, 4), 5));
            open("w " + w, x -> x.group(x.pattern(-1, 0, 0), 0, fixed,
                    x.apply(QUOTIENT, x.leaf(0, 1), x.leaf(1, 0)), 5));
        }
        sentence = "group: v is open when there is none (w > 1)";
        open("the least", x -> x.group(x.pattern(9, 9, 9), 0, 2, x.leaf(0, 1), 5));
        open("the greatest", x -> x.group(x.pattern(9, 9, 9), 0, 3, x.leaf(0, 1), 5));
        sentence = "group: v is open when the sum is not -1000000000 .. 1000000000 at its end";
        open("beyond", x -> x.group(x.pattern(-1, 0, 0), 0, 1, number(x, 500000001), 5));
        open("below", x -> x.group(x.pattern(-1, 0, 0), 0, 1, number(x, -500000001), 5));
    }

    // ---- Terms: too long

    private static void unionsOf80And81() {
        sentence = "TOO LONG when it has more than 80 rows there: union";
        AlgebraTree x = counted(41);
        int all = x.pattern(-1, 0, 0);
        int forty = x.slice(all, 0, 40);
        due("40 and 39", x.run(x.both(UNION, forty, x.slice(all, 0, 39))), 79);
        due("40 and 40", x.run(x.both(UNION, forty, forty)), 80);
        due("the last row", row(x, 79), "39 . . . . .");
        due("40 and 41", x.run(x.both(UNION, forty, all)), TOO_LONG);
        due("41 and 40", x.run(x.both(UNION, all, forty)), TOO_LONG);
        due("41 and 41", x.run(x.both(UNION, all, all)), TOO_LONG);
        int most = x.both(UNION, forty, forty);
        due("80 and 0", x.run(x.both(UNION, most, x.pattern(9, 9, 9))), 80);
        due("0 and 80", x.run(x.both(UNION, x.pattern(9, 9, 9), most)), 80);
        due("80 and 1", x.run(x.both(UNION, most, x.slice(all, 0, 1))), TOO_LONG);
        due("1 and 80", x.run(x.both(UNION, x.slice(all, 0, 1), most)), TOO_LONG);
        due("80 and 80", x.run(x.both(UNION, most, most)), TOO_LONG);
    }

    private static void joinsOf80And81() {
        sentence = "TOO LONG when it has more than 80 rows there: join";
        AlgebraTree x = counted(9);
        count(x, 0, 1, 10);
        count(x, 0, 2, 41);
        int nine = x.pattern(-1, 0, 0);
        int ten = x.pattern(-2, 1, 0);
        due("8 by 10", x.run(x.both(JOIN, x.slice(nine, 0, 8), ten)), 80);
        due("the last row", row(x, 79), "7 9 . . . .");
        due("10 by 8", x.run(x.both(JOIN, ten, x.slice(nine, 0, 8))), 80);
        due("the last row", row(x, 79), "7 9 . . . .");
        due("9 by 9", x.run(x.both(JOIN, nine, x.slice(ten, 0, 9))), TOO_LONG);
        due("9 by 10", x.run(x.both(JOIN, nine, ten)), TOO_LONG);
        int forty = x.pattern(-3, 2, 0);
        int most = x.both(UNION, x.slice(forty, 0, 40), x.slice(forty, 0, 40));
        int one = x.slice(nine, 0, 1);
        due("80 by 1", x.run(x.both(JOIN, most, one)), 80);
        due("1 by 80", x.run(x.both(JOIN, one, most)), 80);
        due("80 by 2", x.run(x.both(JOIN, most, x.slice(nine, 0, 2))), TOO_LONG);
        due("80 by 0", x.run(x.both(JOIN, most, x.pattern(9, 9, 9))), 0);
        due("80 by 1 that agrees with two", x.run(x.both(JOIN, most, x.slice(forty, 3, 1))), 2);
    }

    private static void leftJoinsOf80And81() {
        sentence = "TOO LONG when it has more than 80 rows there: left";
        AlgebraTree x = counted(9);
        count(x, 0, 1, 10);
        count(x, 0, 2, 41);
        int nine = x.pattern(-1, 0, 0);
        int ten = x.pattern(-2, 1, 0);
        int none = x.pattern(9, 9, 9);
        due("8 by 10", x.run(x.left(x.slice(nine, 0, 8), ten, NONE)), 80);
        due("the last row", row(x, 79), "7 9 . . . .");
        due("9 by 9", x.run(x.left(nine, x.slice(ten, 0, 9), NONE)), TOO_LONG);
        int below9 = x.apply(LESS, x.leaf(1, 1), x.leaf(0, 9));
        due("9 by 10 of which 9 hold", x.run(x.left(nine, ten, below9)), TOO_LONG);
        int below8 = x.apply(LESS, x.leaf(1, 1), x.leaf(0, 8));
        due("9 by 10 of which 8 hold", x.run(x.left(nine, ten, below8)), 72);
        int first8 = x.apply(LESS, x.leaf(1, 0), x.leaf(0, 8));
        due("8 by 10 and one alone", x.run(x.left(nine, ten, first8)), TOO_LONG);
        int behindFirst = x.apply(LESS, x.leaf(0, 0), x.leaf(1, 0));
        due("one alone and 8 by 10", x.run(x.left(nine, ten, behindFirst)), TOO_LONG);
        int seventh = x.apply(LESS, x.leaf(1, 0), x.leaf(0, 7));
        due("7 by 10 and two alone", x.run(x.left(nine, ten, seventh)), 72);
        due("the last row", row(x, 71), "8 . . . . .");
        int forty = x.pattern(-3, 2, 0);
        int most = x.both(UNION, x.slice(forty, 0, 40), x.slice(forty, 0, 40));
        due("80 alone", x.run(x.left(most, none, NONE)), 80);
        due("the last row", row(x, 79), ". . 39 . . .");
        due("80 for which nothing holds", x.run(x.left(most, ten, x.leaf(0, 0))), 80);
        due("80, one of them twice", x.run(x.left(x.slice(most, 0, 80), x.both(UNION,
                x.slice(forty, 3, 1), x.extend(x.slice(forty, 3, 1), 5, 0)), NONE)), TOO_LONG);
    }

    private static void graphsOf80And81() {
        sentence = "TOO LONG when it has more than 80 rows there: graphs";
        AlgebraTree x = new AlgebraTree();
        count(x, 1, 0, 20);
        count(x, 2, 0, 19);
        count(x, 3, 0, 1);
        int all = x.pattern(-1, 0, 0);
        int twice = x.both(UNION, all, all);
        int each = x.graphs(5, twice);
        due("40 and 38 and 2", x.run(each), 80);
        due("the last row", row(x, 79), "0 . . . . 3");
        int some = x.both(UNION, twice, x.pattern(19, 0, 0));
        due("41 and 38 and 2", x.run(x.graphs(5, some)), TOO_LONG);
        int last = x.both(UNION, twice, x.graph(3, x.pattern(-1, 0, 0)));
        due("41 and 39 and 3", x.run(x.graphs(5, last)), TOO_LONG);
        int kept = x.graphs(0, twice);
        due("rows that are dropped do not count", x.run(kept), 4);
        x.triple(3, 1, 0, 0);
        due("40 and 38 and 4", x.run(each), TOO_LONG);
        due("told stays", row(x, 3), "2 . . . . .");
        due("rows that are dropped do not count", x.run(kept), 4);
    }

    private static void overOneThatIsTooLong() {
        sentence = "TOO LONG when one of the nodes that it needs is";
        List<Call> kinds = everyKind(2, 1);
        for (int i = 0; i < kinds.size() - 1; i++) {
            AlgebraTree x = nineByNine();
            int node = (Integer) kinds.get(i).on(x);
            due("over one, kind " + i, x.run(node), TOO_LONG);
            due("over one over one, kind " + i, x.run(x.slice(node, 0, 0)), TOO_LONG);
            due("beside it", x.run(0), 9);
        }
        AlgebraTree x = nineByNine();
        int none = x.pattern(9, 9, 9);
        for (int kind = JOIN; kind <= MINUS; kind++) {
            due("over none and one, kind " + kind, x.run(x.both(kind, none, 2)), TOO_LONG);
            due("over one and none, kind " + kind, x.run(x.both(kind, 2, none)), TOO_LONG);
        }
        due("left of none and one", x.run(x.left(none, 2, NONE)), TOO_LONG);
        due("left of one and none", x.run(x.left(2, none, NONE)), TOO_LONG);
        due("slice of no rows", x.run(x.slice(2, 0, 0)), TOO_LONG);
        due("slice of few rows", x.run(x.slice(2, 0, 80)), TOO_LONG);
        due("filter of no rows", x.run(x.filter(2, 0)), TOO_LONG);
        due("distinct of one row", x.run(x.distinct(x.project(2, 0))), TOO_LONG);
        due("group of one row", x.run(x.group(2, 0, 0, 1, 5)), TOO_LONG);
        due("graphs over graph 0", x.run(x.graphs(5, x.graph(0, 2))), TOO_LONG);
        due("graphs over graph 1", x.run(x.graphs(5, x.graph(1, 2))), 0);
    }

    /** Node 2 has 81 rows over graph 0; expression 0 is 0, expression 1 is 1. */
    private static AlgebraTree nineByNine() {
        AlgebraTree x = counted(9);
        x.leaf(0, 0);
        x.leaf(0, 1);
        x.both(JOIN, x.pattern(-1, 0, 0), x.pattern(-2, 0, 0));
        return x;
    }

    private static void tooLongOverOneGraph() {
        sentence = "A node is TOO LONG over a graph";
        for (int wide = 0; wide <= 3; wide++) {
            AlgebraTree x = new AlgebraTree();
            for (int g = 0; g <= 3; g++) {
                count(x, g, 0, g == wide ? 9 : 3);
            }
            int node = x.both(JOIN, x.pattern(-1, 0, 0), x.pattern(-2, 0, 0));
            for (int g = 0; g <= 3; g++) {
                due("graph " + g, x.run(x.graph(g, node)), g == wide ? TOO_LONG : 9);
            }
            due("the root", x.run(node), wide == 0 ? TOO_LONG : 9);
            due("each graph", x.run(x.graphs(5, node)), wide == 0 ? 27 : TOO_LONG);
            due("each graph, few rows", x.run(x.graphs(0, node)), wide == 0 ? 6 : TOO_LONG);
            due("under a graph beside it", x.run(x.graph((wide + 1) % 4, x.graph(wide, node))), TOO_LONG);
            due("under that graph", x.run(x.graph(wide, x.graph((wide + 1) % 4, node))), 9);
        }
    }

    private static void tooLongForSomeTime() {
        sentence = "TOO LONG when it has more than 80 rows: with the triples that there are";
        AlgebraTree x = counted(8);
        int all = x.pattern(-1, 0, 0);
        int kept = x.both(MINUS, all, x.pattern(-1, 1, 0));
        int wide = x.both(JOIN, kept, x.pattern(-2, 0, 0));
        int above = x.order(wide, x.leaf(1, 0), true);
        due("64 rows", x.run(above), 64);
        x.triple(0, 8, 0, 0);
        due("81 rows", x.run(above), TOO_LONG);
        x.triple(0, 8, 0, 0);
        x.triple(0, 8, 1, 0);
        due("72 rows", x.run(above), 72);
        due("the last row", row(x, 71), "0 8 . . . .");
        x.triple(0, 9, 0, 0);
        due("90 rows", x.run(above), TOO_LONG);
        due("told stays", row(x, 71), "0 8 . . . .");
        x.triple(0, 9, 1, 0);
        due("80 rows", x.run(above), 80);
        due("the last row", row(x, 79), "0 9 . . . .");
    }

    // ---- Promises 1 to 4

    private static void the512thCall() {
        sentence = "An object is used for at most 512 calls after it has been made";
        int calls = 512;
        for (int last = 0; last < 4; last++) {
            AlgebraTree x = new AlgebraTree();
            x.triple(0, 4, 0, 0);
            x.leaf(1, 0);
            x.pattern(-1, 0, 0);
            x.run(0);
            for (int i = 4; i < calls - 1; i++) {
                due("call " + (i + 1), i % 2 == 0 ? x.value(0, 0) : x.look(0, 0), 4);
            }
            switch (last) {
                case 0 -> due("the last call", x.triple(0, 5, 0, 0), 1);
                case 1 -> due("the last call", x.leaf(1, 0), 1);
                case 2 -> due("the last call", x.distinct(0), 1);
                default -> due("the last call", x.run(0), 1);
            }
        }
    }

    private static void newObject() {
        sentence = "No triples, expressions, nodes; no rows are told";
        AlgebraTree x = new AlgebraTree();
        for (int i : new int[] {-1, 0, 1, LOW, HIGH}) {
            due("run", x.run(i), NONE);
            due("value", x.value(i, 0), ERROR);
            due("look", x.look(i, i), ERROR);
            due("many", x.many(i), NONE);
            due("same", x.same(i, i), false);
            due("apply", x.apply(SUM, i, i), NONE);
            due("not", x.apply(NOT, i, i), NONE);
        }
        List<Call> kinds = everyKind(0, 0);
        for (int i = 0; i < kinds.size(); i++) {
            due("kind " + i, kinds.get(i).on(x), NONE);
        }
        due("first node", x.pattern(-1, -2, -3), 0);
        rows(x, 0);
        rows(x, x.graphs(0, 0));
        due("no expression", x.filter(0, 0), NONE);
        due("no expression", x.left(0, 0, 0), NONE);
        due("NONE is no expression of a left join that is missing", x.left(0, 0, NONE), 2);
        due("first expression", x.leaf(0, 0), 0);
        due("first triple", x.triple(0, 0, 0, 0), 0);
        rows(x, 0, "0 0 0 . . .");
        due("another object has none of them", new AlgebraTree().run(0), NONE);
    }

    private static void tripleRefused() {
        sentence = "triple: Answers its number; NONE when these are not such, it is there, or there are 60";
        due("the next number", small().triple(0, 5, 5, 5), SMALL_TRIPLES);
        due("the next number", small().triple(3, 5, 5, 5), SMALL_TRIPLES);
        refused("the first is there", x -> x.triple(0, 1, 1, 2));
        refused("the last is there", x -> x.triple(1, 1, 1, 2));
        due("it is not there in graph 2", small().triple(2, 1, 1, 2), SMALL_TRIPLES);
        refused("all are wrong", x -> x.triple(-1, -1, -1, -1));
        refused("all are wrong", x -> x.triple(4, 1000, 1000, 1000));
        refusedWhenFull("there are 60, it is there", x -> x.triple(0, 1, 1, 1));
        refusedWhenFull("there are 60, not such", x -> x.triple(4, 1, 1, 1));
        refusedWhenFull("there are 60", x -> x.triple(2, 0, 999, 0));
    }

    private static void leafBounds() {
        sentence = "kind 0 the constant a (-1000000 .. 1000000)";
        AlgebraTree x = oneRow();
        due("the least", x.leaf(0, -1000000), 0);
        due("the greatest", x.leaf(0, 1000000), 1);
        due("its value", x.look(0, 0), -1000000);
        due("its value", x.look(0, 1), 1000000);
        for (int bad : outside(-1000000, 1000000)) {
            refused("constant " + bad, y -> y.leaf(0, bad));
        }
        refused("constant that a row could have", y -> y.leaf(0, BILLION));
        due("a constant that is no variable", small().leaf(0, 6), SMALL_EXPRESSIONS);
        due("a constant that is no variable", small().leaf(0, -1), SMALL_EXPRESSIONS);
    }

    private static void leafRefused() {
        sentence = "leaf: kind 0, 1, 2; NONE when these are not such, or there are 30";
        for (int kind = 0; kind <= 2; kind++) {
            due("kind " + kind, small().leaf(kind, 0), SMALL_EXPRESSIONS);
            due("kind " + kind, small().leaf(kind, 5), SMALL_EXPRESSIONS);
        }
        for (int bad : outside(0, 2)) {
            refused("kind " + bad, x -> x.leaf(bad, 0));
            refused("kind " + bad + " of 1", x -> x.leaf(bad, 1));
        }
        refusedWhenFull("there are 30, not such", x -> x.leaf(1, 6));
    }

    private static void applyRefused() {
        sentence = "apply: op 0 .. 8 of two expressions; NONE when these are not such, or there are 30";
        for (int op = SUM; op <= NOT; op++) {
            int operation = op;
            due("op " + op, small().apply(op, 0, SMALL_EXPRESSIONS - 1), SMALL_EXPRESSIONS);
            due("op " + op, small().apply(op, SMALL_EXPRESSIONS - 1, 0), SMALL_EXPRESSIONS);
            for (int bad : outside(0, SMALL_EXPRESSIONS - 1)) {
                refused("op " + op + " of " + bad, x -> x.apply(operation, bad, 0));
                if (op != NOT) {
                    refused("op " + op + " with " + bad, x -> x.apply(operation, 0, bad));
                }
            }
        }
        for (int bad : outside(0, 8)) {
            refused("op " + bad, x -> x.apply(bad, 0, 0));
        }
        due("not beside none such", small().apply(NOT, 0, SMALL_EXPRESSIONS), SMALL_EXPRESSIONS);
        refusedWhenFull("not beside none such, there are 30", x -> x.apply(NOT, 0, 30));
    }

    // ---- Promises 5 to 16

    private static void patternBounds() {
        sentence = "pattern: each of the three 0 .. 999, or -1 .. -6";
        for (int last : new int[] {0, 999, -1, -6}) {
            due("s " + last, small().pattern(last, 1, 1), SMALL_NODES);
            due("p " + last, small().pattern(1, last, 1), SMALL_NODES);
            due("o " + last, small().pattern(1, 1, last), SMALL_NODES);
        }
        AlgebraTree x = new AlgebraTree();
        x.triple(0, 0, 999, 5);
        rows(x, x.pattern(0, 999, -6), ". . . . . 5");
        rows(x, x.pattern(-6, 999, -1), "5 . . . . 0");
        rows(x, x.pattern(-1, -6, 5), "0 . . . . 999");
        rows(x, x.pattern(0, 998, 5));
        rows(x, x.pattern(1, 999, 5));
    }

    private static void patternRefused() {
        sentence = "pattern: NONE when these are not such, or there are 30";
        for (int bad : outside(-6, 999)) {
            refused("s " + bad, x -> x.pattern(bad, 1, 1));
            refused("p " + bad, x -> x.pattern(1, bad, 1));
            refused("o " + bad, x -> x.pattern(1, 1, bad));
        }
        refusedWhenFull("there are 30", x -> x.pattern(-1, -1, -1));
        refusedWhenFull("there are 30, not such", x -> x.pattern(-7, 0, 0));
    }

    private interface OverNode {
        int make(AlgebraTree x, int node);
    }

    private interface WithExpression {
        int make(AlgebraTree x, int e);
    }

    /** The first and the last node are such, those beside them are not. */
    private static void nodeBounds(String text, OverNode call) {
        due(text + " over the first", call.make(small(), 0), SMALL_NODES);
        due(text + " over the last", call.make(small(), SMALL_NODES - 1), SMALL_NODES);
        for (int bad : outside(0, SMALL_NODES - 1)) {
            refused(text + " over " + bad, x -> call.make(x, bad));
        }
        refused(text + " over 29", x -> call.make(x, 29));
        refused(text + " over 30", x -> call.make(x, 30));
        refusedWhenFull(text + " over the last, there are 30", x -> call.make(x, 29));
        refusedWhenFull(text + " over none such, there are 30", x -> call.make(x, 30));
    }

    private static void expressionBounds(String text, WithExpression call, int firstBad) {
        due(text + " with the first", call.make(small(), 0), SMALL_NODES);
        due(text + " with the last", call.make(small(), SMALL_EXPRESSIONS - 1), SMALL_NODES);
        for (int bad : new int[] {firstBad, SMALL_EXPRESSIONS, 29, 30, LOW, HIGH}) {
            refused(text + " with " + bad, x -> call.make(x, bad));
        }
        refusedWhenFull(text + " with the last, there are 30 nodes", x -> call.make(x, 29));
    }

    private static void bothRefused() {
        sentence = "both: kind 0 join, 1 union, 2 minus of two nodes; NONE when these are not such, or there are 30";
        for (int kind = JOIN; kind <= MINUS; kind++) {
            int fixed = kind;
            nodeBounds("first of kind " + kind, (x, a) -> x.both(fixed, a, 0));
            nodeBounds("second of kind " + kind, (x, b) -> x.both(fixed, 0, b));
        }
        for (int bad : outside(JOIN, MINUS)) {
            refused("kind " + bad, x -> x.both(bad, 0, 0));
        }
        AlgebraTree x = counted(1);
        int one = x.pattern(-1, 0, 0);
        rows(x, x.both(0, one, one), "0 . . . . .");
        rows(x, x.both(1, one, one), "0 . . . . .", "0 . . . . .");
        rows(x, x.both(2, one, one));
    }

    private static void leftRefused() {
        sentence = "left: e is an expression or NONE; NONE when these are not such, or there are 30";
        nodeBounds("first", (x, a) -> x.left(a, 0, NONE));
        nodeBounds("second", (x, b) -> x.left(0, b, NONE));
        nodeBounds("first with e", (x, a) -> x.left(a, 0, 0));
        nodeBounds("second with e", (x, b) -> x.left(0, b, 0));
        due("e is NONE", small().left(0, 0, NONE), SMALL_NODES);
        expressionBounds("left", (x, e) -> x.left(0, 0, e), NONE - 1);
    }

    private static void filterRefused() {
        sentence = "filter: NONE when these are not such, or there are 30";
        nodeBounds("filter", (x, a) -> x.filter(a, 0));
        expressionBounds("filter", (x, e) -> x.filter(0, e), NONE);
    }

    private static void extendRefused() {
        sentence = "extend: NONE when these are not such, or there are 30";
        nodeBounds("extension", (x, a) -> x.extend(a, 0, 0));
        expressionBounds("extension", (x, e) -> x.extend(0, 5, e), NONE);
        due("variable 0", small().extend(0, 0, 0), SMALL_NODES);
        due("variable 5", small().extend(0, 5, 0), SMALL_NODES);
        for (int bad : outside(0, 5)) {
            refused("variable " + bad, x -> x.extend(0, bad, 0));
        }
    }

    private static void projectBounds() {
        sentence = "project: the set is 0 .. 63";
        due("set 0", small().project(0, 0), SMALL_NODES);
        due("set 63", small().project(0, 63), SMALL_NODES);
        for (int bad : outside(0, 63)) {
            refused("set " + bad, x -> x.project(0, bad));
        }
        refused("a bit beyond", x -> x.project(0, 65));
    }

    private static void projectRefused() {
        sentence = "project: NONE when these are not such, or there are 30";
        nodeBounds("projection to all", (x, a) -> x.project(a, 63));
        nodeBounds("projection to none", (x, a) -> x.project(a, 0));
    }

    private static void distinctRefused() {
        sentence = "distinct: NONE when these are not such, or there are 30";
        nodeBounds("distinct", (x, a) -> x.distinct(a));
    }

    private static void sliceBounds() {
        sentence = "slice: both numbers are 0 .. 1000";
        for (int from : new int[] {0, 1000}) {
            for (int n : new int[] {0, 1000}) {
                due("slice from " + from + " of " + n, small().slice(0, from, n), SMALL_NODES);
            }
        }
        for (int bad : outside(0, 1000)) {
            refused("from " + bad, x -> x.slice(0, bad, 1));
            refused("n " + bad, x -> x.slice(0, 0, bad));
            refused("both " + bad, x -> x.slice(0, bad, bad));
        }
        AlgebraTree x = counted(3);
        int three = x.pattern(-1, 0, 0);
        rows(x, x.slice(three, 0, 1000), "0 . . . . .", "1 . . . . .", "2 . . . . .");
        rows(x, x.slice(three, 2, 1000), "2 . . . . .");
        rows(x, x.slice(three, 1000, 0));
        rows(x, x.slice(three, 1000, 1000));
    }

    private static void sliceRefused() {
        sentence = "slice: NONE when these are not such, or there are 30";
        nodeBounds("slice", (x, a) -> x.slice(a, 0, 1));
        nodeBounds("slice of none", (x, a) -> x.slice(a, 1000, 0));
    }

    private static void orderRefused() {
        sentence = "order: NONE when these are not such, or there are 30";
        nodeBounds("order up", (x, a) -> x.order(a, 0, false));
        nodeBounds("order down", (x, a) -> x.order(a, 0, true));
        expressionBounds("order up", (x, e) -> x.order(0, e, false), NONE);
        expressionBounds("order down", (x, e) -> x.order(0, e, true), NONE);
    }

    private static void groupBounds() {
        sentence = "group: w = 0, 1, 2, 3; (v is not in the SET.)";
        for (int v = 0; v <= 5; v++) {
            int fixed = v;
            due("all but " + v, small().group(0, 63 - (1 << v), 0, 0, v), SMALL_NODES);
            due("none", small().group(0, 0, 3, 0, v), SMALL_NODES);
            refused(v + " is the set", x -> x.group(0, 1 << fixed, 0, 0, fixed));
            refused(v + " is in the set of all", x -> x.group(0, 63, 3, 0, fixed));
        }
        for (int bad : outside(0, 3)) {
            refused("w " + bad, x -> x.group(0, 0, bad, 0, 0));
        }
        for (int bad : outside(0, 63)) {
            refused("set " + bad, x -> x.group(0, bad, 0, 0, 0));
            refused("set " + bad, x -> x.group(0, bad, 0, 0, 5));
        }
        for (int bad : outside(0, 5)) {
            refused("variable " + bad, x -> x.group(0, 0, 0, 0, bad));
            refused("variable " + bad, x -> x.group(0, 62, 0, 0, bad));
        }
    }

    private static void groupRefused() {
        sentence = "group: NONE when these are not such, or there are 30";
        for (int w = 0; w <= 3; w++) {
            int fixed = w;
            nodeBounds("group " + w, (x, a) -> x.group(a, 31, fixed, 0, 5));
            expressionBounds("group " + w, (x, e) -> x.group(0, 62, fixed, e, 0), NONE);
        }
    }

    private static void graphBounds() {
        sentence = "graph: A graph by its number 0 .. 3";
        for (int g = 0; g <= 3; g++) {
            due("graph " + g, small().graph(g, 0), SMALL_NODES);
        }
        for (int bad : outside(0, 3)) {
            refused("graph " + bad, x -> x.graph(bad, 0));
        }
    }

    private static void graphRefused() {
        sentence = "graph: NONE when these are not such, or there are 30";
        for (int g = 0; g <= 3; g++) {
            int fixed = g;
            nodeBounds("graph " + g, (x, a) -> x.graph(fixed, a));
        }
    }

    private static void graphsRefused() {
        sentence = "graphs: NONE when these are not such, or there are 30";
        nodeBounds("graphs by 0", (x, a) -> x.graphs(0, a));
        nodeBounds("graphs by 5", (x, a) -> x.graphs(5, a));
        for (int bad : outside(0, 5)) {
            refused("graphs by " + bad, x -> x.graphs(bad, 0));
        }
    }

    // ---- Promises 17 to 21

    private static void runRefused() {
        sentence = "run: NONE when there is no such node";
        due("the first", small().run(0), 2);
        due("the last", small().run(SMALL_NODES - 1), 2);
        for (int bad : outside(0, SMALL_NODES - 1)) {
            refused("node " + bad, x -> x.run(bad));
        }
        due("the last of 30", full().run(29) >= 0, true);
        for (int bad : outside(0, 29)) {
            refusedWhenFull("node " + bad, x -> x.run(bad));
        }
    }

    private static void runTooLongKeepsRows() {
        sentence = "-2 when it is too long (the rows told before stay)";
        refused("too long", AlgebraTreeBoundsTest::full, x -> x.run(5), TOO_LONG);
        AlgebraTree x = counted(40);
        int all = x.pattern(-1, 0, 0);
        int most = x.both(UNION, all, all);
        int more = x.both(UNION, most, x.slice(all, 0, 1));
        int v0 = x.leaf(1, 0);
        due("nothing told, too long", x.run(more), TOO_LONG);
        due("nothing told", x.many(0), NONE);
        due("80 rows", x.run(most), 80);
        due("81 rows", x.run(more), TOO_LONG);
        due("value stays", x.value(79, 0), 39);
        due("look stays", x.look(79, v0), 39);
        due("many stays", x.many(79), 2);
        due("no row 80", x.value(80, 0), ERROR);
        rows(x, x.slice(all, 7, 1), "7 . . . . .");
        due("81 rows", x.run(more), TOO_LONG);
        due("value stays", row(x, 0), "7 . . . . .");
        due("no row 1", x.many(1), NONE);
    }

    private static void runOfNoRows() {
        sentence = "Makes the rows of a node: these are told then. Answers how many";
        AlgebraTree x = counted(3);
        int three = x.pattern(-1, 0, 0);
        int none = x.pattern(9, 9, 9);
        int one = x.leaf(0, 1);
        due("three", x.run(three), 3);
        due("none", x.run(none), 0);
        due("value", x.value(0, 0), ERROR);
        due("look", x.look(0, one), ERROR);
        due("many", x.many(0), NONE);
        due("three again", x.run(three), 3);
        x.triple(0, 3, 0, 0);
        x.triple(0, 9, 9, 9);
        due("told rows are those of then", x.many(3), NONE);
        due("four now", x.run(three), 4);
        due("one now", x.run(none), 1);
        due("of one row", x.value(0, 0), ERROR);
        due("of one row", x.look(0, one), 1);
        due("row 1 of before is gone", x.look(1, one), ERROR);
    }

    private static void valueRefused() {
        sentence = "value: ERROR when it is open there, or there are none such";
        for (int i = 0; i < SMALL_ROWS; i++) {
            due("row " + i, small().value(i, 0), i % 2 == 0 ? 1 : 3);
            due("row " + i, small().value(i, 2), i % 2 == 0 ? 2 : 4);
            due("open in row " + i, small().value(i, 3), ERROR);
            due("open in row " + i, small().value(i, 5), ERROR);
        }
        for (int bad : outside(0, SMALL_ROWS - 1)) {
            refused("row " + bad, AlgebraTreeBoundsTest::small, x -> x.value(bad, 0), ERROR);
            refused("row " + bad, AlgebraTreeBoundsTest::small, x -> x.value(bad, 5), ERROR);
        }
        for (int bad : outside(0, 5)) {
            refused("variable " + bad, AlgebraTreeBoundsTest::small, x -> x.value(1, bad), ERROR);
            refused("row and variable " + bad, AlgebraTreeBoundsTest::small, x -> x.value(bad, bad), ERROR);
            refused("variable " + bad + " of row 79", AlgebraTreeBoundsTest::full, x -> x.value(79, bad), ERROR);
        }
        due("row 79 of 80", full().value(79, 0), 39);
        for (int bad : outside(0, 79)) {
            refused("row " + bad + " of 80", AlgebraTreeBoundsTest::full, x -> x.value(bad, 0), ERROR);
        }
    }

    private static void lookRefused() {
        sentence = "look: ERROR when it is an error, or there are none such";
        int[] sums = {8, 10, 8, 10};
        for (int i = 0; i < SMALL_ROWS; i++) {
            due("the first in row " + i, small().look(i, 0), 7);
            due("the last in row " + i, small().look(i, SMALL_EXPRESSIONS - 1), sums[i]);
        }
        for (int bad : outside(0, SMALL_ROWS - 1)) {
            refused("constant in row " + bad, AlgebraTreeBoundsTest::small, x -> x.look(bad, 0), ERROR);
            refused("sum in row " + bad, AlgebraTreeBoundsTest::small, x -> x.look(bad, 2), ERROR);
        }
        for (int bad : outside(0, SMALL_EXPRESSIONS - 1)) {
            refused("expression " + bad, AlgebraTreeBoundsTest::small, x -> x.look(0, bad), ERROR);
        }
        for (int bad : outside(0, 29)) {
            refused("expression " + bad + " of 30", AlgebraTreeBoundsTest::full, x -> x.look(0, bad), ERROR);
        }
        due("row 79 of 80", full().look(79, 1), 39);
        for (int bad : outside(0, 79)) {
            refused("row " + bad + " of 80", AlgebraTreeBoundsTest::full, x -> x.look(bad, 0), ERROR);
        }
        AlgebraTree x = small();
        due("an error", x.look(0, x.leaf(1, 5)), ERROR);
        due("bound is no error", x.look(0, x.leaf(2, 5)), 0);
        due("of an error", x.look(0, x.apply(SUM, 3, 0)), ERROR);
    }

    private static void manyRefused() {
        sentence = "many: NONE when there is none such";
        for (int i = 0; i < SMALL_ROWS; i++) {
            due("row " + i, small().many(i), 2);
        }
        for (int bad : outside(0, SMALL_ROWS - 1)) {
            refused("row " + bad, x -> x.many(bad));
        }
        due("row 79 of 80", full().many(79), 2);
        for (int bad : outside(0, 79)) {
            refusedWhenFull("row " + bad + " of 80", x -> x.many(bad));
        }
    }

    private static void manyBounds() {
        sentence = "many: How many rows that are told are the same as row i";
        AlgebraTree x = counted(40);
        int all = x.pattern(-1, 0, 0);
        int most = x.both(UNION, all, all);
        due("80 rows", x.run(x.project(most, 0)), 80);
        due("all of them", x.many(0), 80);
        due("all of them", x.many(79), 80);
        due("one row", x.run(x.project(x.slice(all, 0, 1), 0)), 1);
        due("those of before do not count", x.many(0), 1);
        due("40 rows", x.run(all), 40);
        due("itself", x.many(0), 1);
        due("itself", x.many(39), 1);
        due("none behind", x.many(40), NONE);
        int zero = x.slice(all, 0, 1);
        int open = x.project(zero, 0);
        int last = x.extend(zero, 5, x.leaf(0, -1));
        due("three rows", x.run(x.both(UNION, zero, x.both(UNION, open, last))), 3);
        due("0 is not open", x.many(0), 1);
        due("open is not 0", x.many(1), 1);
        due("-1 is not open", x.many(2), 1);
        AlgebraTree y = new AlgebraTree();
        y.triple(0, 4, 1, 4);
        y.triple(0, 4, 1, 5);
        int loop = y.pattern(-1, 1, -1);
        rows(y, loop, "4 . . . . .");
        due("a triple that does not fit leaves no row", y.many(0), 1);
        due("a triple that does not fit leaves no row", y.same(loop, y.pattern(-1, 1, 4)), true);
    }

    private static void sameRefused() {
        sentence = "same: false when there are none such";
        due("the first", small().same(0, 0), true);
        due("the last", small().same(SMALL_NODES - 1, SMALL_NODES - 1), true);
        for (int bad : outside(0, SMALL_NODES - 1)) {
            refused("first " + bad, AlgebraTreeBoundsTest::small, x -> x.same(bad, 0), false);
            refused("second " + bad, AlgebraTreeBoundsTest::small, x -> x.same(0, bad), false);
            refused("both " + bad, AlgebraTreeBoundsTest::small, x -> x.same(bad, bad), false);
            refused("beside one without rows " + bad, AlgebraTreeBoundsTest::small, x -> x.same(3, bad), false);
        }
        due("the last of 30", full().same(29, 29), true);
        for (int bad : outside(0, 29)) {
            refused("both " + bad, AlgebraTreeBoundsTest::full, x -> x.same(bad, bad), false);
        }
    }

    private static void sameWhenTooLong() {
        sentence = "same: false when one is too long";
        refused("the first", AlgebraTreeBoundsTest::full, x -> x.same(5, 1), false);
        refused("the second", AlgebraTreeBoundsTest::full, x -> x.same(1, 5), false);
        refused("both", AlgebraTreeBoundsTest::full, x -> x.same(5, 5), false);
        AlgebraTree x = nineByNine();
        int none = x.pattern(9, 9, 9);
        int cut = x.slice(2, 0, 0);
        due("one over it and none", x.same(cut, none), false);
        due("none and one over it", x.same(none, cut), false);
        due("one over it, itself", x.same(cut, cut), false);
        due("it over a graph where it is short", x.same(x.graph(1, 2), none), true);
        int eighty = x.slice(x.pattern(-1, 0, 0), 0, 8);
        int wide = x.both(JOIN, eighty, x.pattern(-2, 0, 0));
        due("72 rows", x.same(wide, wide), true);
        x.triple(0, 9, 0, 0);
        due("80 rows", x.same(wide, wide), true);
        x.triple(0, 10, 0, 0);
        due("88 rows", x.same(wide, wide), false);
    }

    private static void sameBothWaysRound() {
        sentence = "Whether every row is as often among those of another one, and the other way round";
        AlgebraTree x = counted(2);
        int two = x.pattern(-1, 0, 0);
        int first = x.slice(two, 0, 1);
        int second = x.slice(two, 1, 1);
        int none = x.pattern(9, 9, 9);
        due("none and none", x.same(none, x.slice(two, 2, 5)), true);
        due("none and one", x.same(none, first), false);
        due("one and none", x.same(first, none), false);
        due("one and two", x.same(first, two), false);
        due("two and one", x.same(two, first), false);
        due("one and another", x.same(first, second), false);
        int turned = x.both(UNION, second, first);
        due("turned round", x.same(two, turned), true);
        int firstTwice = x.both(UNION, two, first);
        int secondTwice = x.both(UNION, second, two);
        due("another one twice", x.same(firstTwice, secondTwice), false);
        due("another one twice", x.same(secondTwice, firstTwice), false);
        due("one of them twice", x.same(two, firstTwice), false);
        due("one of them twice", x.same(firstTwice, two), false);
        due("twice in another order", x.same(firstTwice, x.both(UNION, first, turned)), true);
        due("an open one", x.same(first, x.project(first, 0)), false);
        due("another variable", x.same(first, x.pattern(-6, 0, 0)), false);
        AlgebraTree y = counted(40);
        int all = y.pattern(-1, 0, 0);
        int most = y.both(UNION, all, all);
        int down = y.order(most, y.leaf(1, 0), true);
        due("80 and 80", y.same(most, down), true);
        due("80 and 79", y.same(most, y.slice(down, 0, 79)), false);
        int lastTwice = y.both(UNION, y.slice(down, 1, 79), y.slice(all, 0, 1));
        due("80 and 80, one less and one more often", y.same(most, lastTwice), false);
    }

    private static void sameKeepsRows() {
        sentence = "same: What is told stays";
        for (int a = 0; a < SMALL_NODES; a++) {
            for (int b = 0; b < SMALL_NODES; b++) {
                AlgebraTree x = small();
                x.same(a, b);
                due("rows told behind same(" + a + ", " + b + ")", toldRows(x), toldRows(small()));
            }
        }
        AlgebraTree x = counted(2);
        int two = x.pattern(-1, 0, 0);
        due("nothing is told", x.same(two, two), true);
        due("nothing is told", x.many(0), NONE);
        x.run(two);
        x.triple(0, 2, 0, 0);
        due("with a new triple", x.same(two, two), true);
        due("told before it", x.many(2), NONE);
    }
}
