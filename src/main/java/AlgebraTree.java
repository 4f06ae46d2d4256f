/** An algebra of rows over triples in graphs; ../shared/DOC.md has its promises. */
public final class AlgebraTree {
    public static final int NONE = -1;
    public static final int ERROR = -2147483648;

    private static final int TOO_LONG = -2;

    private static final int TERMS = 1000;
    private static final int GRAPHS = 4;
    private static final int TRIPLES = 60;
    private static final int VARIABLES = 6;
    private static final int SETS = 64;
    private static final int EXPRESSIONS = 30;
    private static final int NODES = 30;
    private static final int ROWS = 80;
    private static final int SLICE_LIMIT = 1000;
    private static final int CONSTANT_LIMIT = 1000000;
    private static final int VALUE_LIMIT = 1000000000;

    private static final int ALL_VARIABLES = SETS - 1;

    // No value is as small as ERROR, so one number tells an open variable and
    // an expression's error alike, and it stands before all values in order.
    private static final int OPEN = ERROR;

    private final Maker maker;
    private final Triples triples;
    private final Expressions expressions;
    private final Nodes nodes;
    private final Rows told;

    public AlgebraTree() {
        maker = new Maker();
        triples = maker.triples;
        expressions = maker.expressions;
        nodes = maker.nodes;
        told = new Rows();
    }

    public int triple(int graph, int s, int p, int o) {
        if (!isBelow(graph, GRAPHS) || !isTerm(s) || !isTerm(p) || !isTerm(o)) {
            return NONE;
        }
        return triples.add(graph, s, p, o);
    }

    public int leaf(int kind, int a) {
        if (!isBelow(kind, Expressions.LEAF_KINDS)) {
            return NONE;
        }
        boolean fits = kind == 0 ? isWithin(a, CONSTANT_LIMIT) : isVariable(a);
        return fits ? expressions.addLeaf(kind, a) : NONE;
    }

    public int apply(int op, int a, int b) {
        if (!isBelow(op, Expressions.OPERATIONS) || !expressions.has(a)) {
            return NONE;
        }
        if (op == Expressions.NOT) {
            return expressions.addOperation(op, a, a);
        }
        return expressions.has(b) ? expressions.addOperation(op, a, b) : NONE;
    }

    public int pattern(int s, int p, int o) {
        if (nodes.isFull() || !isPlace(s) || !isPlace(p) || !isPlace(o)) {
            return NONE;
        }
        Node node = new Node(Node.PATTERN, NONE, NONE);
        node.s = s;
        node.p = p;
        node.o = o;
        return nodes.add(node);
    }

    public int both(int kind, int a, int b) {
        if (!isBelow(kind, Node.BOTH_KINDS) || !nodes.canStandOver(a) || !nodes.has(b)) {
            return NONE;
        }
        return nodes.add(new Node(Node.JOIN + kind, a, b));
    }

    public int left(int a, int b, int e) {
        if (!nodes.canStandOver(a) || !nodes.has(b) || (e != NONE && !expressions.has(e))) {
            return NONE;
        }
        Node node = new Node(Node.LEFT, a, b);
        node.expression = e;
        return nodes.add(node);
    }

    public int filter(int a, int e) {
        if (!nodes.canStandOver(a) || !expressions.has(e)) {
            return NONE;
        }
        Node node = new Node(Node.FILTER, a, NONE);
        node.expression = e;
        return nodes.add(node);
    }

    public int extend(int a, int v, int e) {
        if (!nodes.canStandOver(a) || !isVariable(v) || !expressions.has(e)) {
            return NONE;
        }
        Node node = new Node(Node.EXTEND, a, NONE);
        node.variable = v;
        node.expression = e;
        return nodes.add(node);
    }

    public int project(int a, int set) {
        if (!nodes.canStandOver(a) || !isBelow(set, SETS)) {
            return NONE;
        }
        Node node = new Node(Node.PROJECT, a, NONE);
        node.set = set;
        return nodes.add(node);
    }

    public int distinct(int a) {
        return nodes.canStandOver(a) ? nodes.add(new Node(Node.DISTINCT, a, NONE)) : NONE;
    }

    public int slice(int a, int from, int n) {
        if (!nodes.canStandOver(a) || !isSliceNumber(from) || !isSliceNumber(n)) {
            return NONE;
        }
        Node node = new Node(Node.SLICE, a, NONE);
        node.from = from;
        node.length = n;
        return nodes.add(node);
    }

    public int order(int a, int e, boolean down) {
        if (!nodes.canStandOver(a) || !expressions.has(e)) {
            return NONE;
        }
        Node node = new Node(Node.ORDER, a, NONE);
        node.expression = e;
        node.down = down;
        return nodes.add(node);
    }

    public int group(int a, int set, int w, int e, int v) {
        if (!nodes.canStandOver(a) || !isBelow(set, SETS) || !isBelow(w, Node.AGGREGATES)) {
            return NONE;
        }
        if (!expressions.has(e) || !isVariable(v) || isInSet(v, set)) {
            return NONE;
        }
        Node node = new Node(Node.GROUP, a, NONE);
        node.set = set;
        node.aggregate = w;
        node.expression = e;
        node.variable = v;
        return nodes.add(node);
    }

    public int graph(int g, int a) {
        if (!isBelow(g, GRAPHS) || !nodes.canStandOver(a)) {
            return NONE;
        }
        Node node = new Node(Node.GRAPH, a, NONE);
        node.graph = g;
        return nodes.add(node);
    }

    public int graphs(int v, int a) {
        if (!isVariable(v) || !nodes.canStandOver(a)) {
            return NONE;
        }
        Node node = new Node(Node.EACH_GRAPH, a, NONE);
        node.variable = v;
        return nodes.add(node);
    }

    public int run(int node) {
        if (!nodes.has(node)) {
            return NONE;
        }
        Rows rows = maker.rowsOf(node);
        if (rows.tooLong) {
            return TOO_LONG;
        }
        told.become(rows);
        return told.size;
    }

    public int value(int i, int v) {
        return isBelow(i, told.size) && isVariable(v) ? told.at(i, v) : ERROR;
    }

    public int look(int i, int e) {
        return isBelow(i, told.size) && expressions.has(e) ? expressions.valueOf(e, told, i) : ERROR;
    }

    public int many(int i) {
        return isBelow(i, told.size) ? told.countLike(told, i) : NONE;
    }

    public boolean same(int a, int b) {
        if (!nodes.has(a) || !nodes.has(b)) {
            return false;
        }
        Rows rowsOfA = maker.rowsOf(a);
        Rows rowsOfB = maker.rowsOf(b);
        return !rowsOfA.tooLong && !rowsOfB.tooLong && rowsOfA.isSameBagAs(rowsOfB);
    }

    private static boolean isBelow(int number, int bound) {
        return number >= 0 && number < bound;
    }

    private static boolean isWithin(long number, int limit) {
        return number >= -limit && number <= limit;
    }

    private static boolean isTerm(int number) {
        return isBelow(number, TERMS);
    }

    private static boolean isVariable(int number) {
        return isBelow(number, VARIABLES);
    }

    private static boolean isPlace(int number) {
        return number >= -VARIABLES && number < TERMS;
    }

    private static boolean isSliceNumber(int number) {
        return number >= 0 && number <= SLICE_LIMIT;
    }

    private static boolean isInSet(int variable, int set) {
        return (set >> variable & 1) != 0;
    }

    private static boolean isTrue(int value) {
        return value != 0 && value != ERROR;
    }

    private static int valueOrError(long number) {
        return isWithin(number, VALUE_LIMIT) ? (int) number : ERROR;
    }

    private static final class Triples {
        final int[] graph;
        final int[] s;
        final int[] p;
        final int[] o;
        int size;

        Triples() {
            graph = new int[TRIPLES];
            s = new int[TRIPLES];
            p = new int[TRIPLES];
            o = new int[TRIPLES];
        }

        int add(int inGraph, int subject, int predicate, int object) {
            if (size == TRIPLES || contains(inGraph, subject, predicate, object)) {
                return NONE;
            }
            graph[size] = inGraph;
            s[size] = subject;
            p[size] = predicate;
            o[size] = object;
            size++;
            return size - 1;
        }

        private boolean contains(int inGraph, int subject, int predicate, int object) {
            for (int i = 0; i < size; i++) {
                if (graph[i] == inGraph && s[i] == subject && p[i] == predicate && o[i] == object) {
                    return true;
                }
            }
            return false;
        }
    }

    private static final class Expressions {
        static final int SUM = 0;
        static final int DIFFERENCE = 1;
        static final int PRODUCT = 2;
        static final int QUOTIENT = 3;
        static final int LESS = 4;
        static final int ALIKE = 5;
        static final int AND = 6;
        static final int OR = 7;
        static final int NOT = 8;
        static final int OPERATIONS = 9;

        static final int CONSTANT = 9;
        static final int VARIABLE = 10;
        static final int BOUND = 11;
        static final int LEAF_KINDS = 3;

        private final int[] kind;
        private final int[] first;
        private final int[] second;
        // Parts may be shared, so a walk down a tree could take 2^29 steps:
        // the set of all parts (a bit each) lets every part be valued once.
        private final int[] parts;
        private final int[] values;
        private int size;

        Expressions() {
            kind = new int[EXPRESSIONS];
            first = new int[EXPRESSIONS];
            second = new int[EXPRESSIONS];
            parts = new int[EXPRESSIONS];
            values = new int[EXPRESSIONS];
        }

        boolean has(int e) {
            return isBelow(e, size);
        }

        int addLeaf(int leafKind, int a) {
            return add(CONSTANT + leafKind, a, 0, 0);
        }

        int addOperation(int op, int a, int b) {
            return add(op, a, b, parts[a] | parts[b]);
        }

        private int add(int newKind, int a, int b, int partsBelow) {
            if (size == EXPRESSIONS) {
                return NONE;
            }
            kind[size] = newKind;
            first[size] = a;
            second[size] = b;
            parts[size] = partsBelow | 1 << size;
            size++;
            return size - 1;
        }

        int valueOf(int e, Rows rows, int row) {
            for (int i = 0; i <= e; i++) {
                if ((parts[e] >> i & 1) == 0) {
                    continue;
                }
                if (kind[i] >= CONSTANT) {
                    values[i] = leafValue(kind[i], first[i], rows, row);
                } else if (kind[i] >= AND) {
                    values[i] = logicValue(kind[i], values[first[i]], values[second[i]]);
                } else {
                    values[i] = valueOrError(number(kind[i], values[first[i]], values[second[i]]));
                }
            }
            return values[e];
        }

        private static int leafValue(int kind, int a, Rows rows, int row) {
            if (kind == CONSTANT) {
                return a;
            }
            int value = rows.at(row, a);
            if (kind == VARIABLE) {
                return value;
            }
            return value == OPEN ? 0 : 1;
        }

        private static int logicValue(int op, int x, int y) {
            if (op == AND && (x == 0 || y == 0)) {
                return 0;
            }
            if (op == OR && (isTrue(x) || isTrue(y))) {
                return 1;
            }
            if (x == ERROR || y == ERROR) {
                return ERROR;
            }
            if (op == NOT) {
                return x == 0 ? 1 : 0;
            }
            return op == AND ? 1 : 0;
        }

        private static long number(int op, int x, int y) {
            if (x == ERROR || y == ERROR) {
                return ERROR;
            }
            switch (op) {
                case SUM:
                    return (long) x + y;
                case DIFFERENCE:
                    return (long) x - y;
                case PRODUCT:
                    return (long) x * y;
                case QUOTIENT:
                    return y == 0 ? ERROR : x / y;
                case LESS:
                    return x < y ? 1 : 0;
                default:
                    return x == y ? 1 : 0;
            }
        }
    }

    private static final class Node {
        static final int PATTERN = 0;
        static final int JOIN = 1;
        static final int UNION = 2;
        static final int MINUS = 3;
        static final int LEFT = 4;
        static final int FILTER = 5;
        static final int EXTEND = 6;
        static final int PROJECT = 7;
        static final int DISTINCT = 8;
        static final int SLICE = 9;
        static final int ORDER = 10;
        static final int GROUP = 11;
        static final int GRAPH = 12;
        static final int EACH_GRAPH = 13;

        static final int BOTH_KINDS = 3;

        static final int COUNT = 0;
        static final int TOTAL = 1;
        static final int LEAST = 2;
        static final int GREATEST = 3;
        static final int AGGREGATES = 4;

        final int kind;
        final int a;
        final int b;
        int s;
        int p;
        int o;
        int expression;
        int variable;
        int set;
        int from;
        int length;
        boolean down;
        int aggregate;
        int graph;

        Node(int kind, int a, int b) {
            this.kind = kind;
            this.a = a;
            this.b = b;
        }
    }

    private static final class Nodes {
        private final Node[] list;
        private int size;

        Nodes() {
            list = new Node[NODES];
        }

        boolean isFull() {
            return size == NODES;
        }

        boolean has(int node) {
            return isBelow(node, size);
        }

        boolean canStandOver(int a) {
            return !isFull() && has(a);
        }

        int add(Node node) {
            if (isFull()) {
                return NONE;
            }
            list[size] = node;
            size++;
            return size - 1;
        }

        Node at(int node) {
            return list[node];
        }
    }

    /**
     * Up to ROWS rows, and behind them a draft: the place of the row that may
     * come next. It is there beyond the last row too, since a left join has to
     * look at a row that it may not keep.
     */
    private static final class Rows {
        private final int[] cells;
        int size;
        boolean tooLong;
        // How many triples there were when these rows were made.
        int madeAt;

        Rows() {
            cells = new int[(ROWS + 1) * VARIABLES];
            madeAt = NONE;
        }

        int at(int row, int variable) {
            return cells[row * VARIABLES + variable];
        }

        void put(int row, int variable, int value) {
            cells[row * VARIABLES + variable] = value;
        }

        void clear() {
            size = 0;
            tooLong = false;
        }

        void become(Rows other) {
            System.arraycopy(other.cells, 0, cells, 0, other.size * VARIABLES);
            size = other.size;
        }

        void draftOpen() {
            for (int v = 0; v < VARIABLES; v++) {
                put(size, v, OPEN);
            }
        }

        void draftOf(Rows other, int row, int set) {
            for (int v = 0; v < VARIABLES; v++) {
                put(size, v, isInSet(v, set) ? other.at(row, v) : OPEN);
            }
        }

        void draftTogether(Rows a, int rowOfA, Rows b, int rowOfB) {
            for (int v = 0; v < VARIABLES; v++) {
                int value = a.at(rowOfA, v);
                put(size, v, value == OPEN ? b.at(rowOfB, v) : value);
            }
        }

        /** Whether the draft may have this value there: it has it then. */
        boolean draftTakes(int variable, int value) {
            if (at(size, variable) == OPEN) {
                put(size, variable, value);
            }
            return at(size, variable) == value;
        }

        void keepDraft() {
            if (size == ROWS) {
                tooLong = true;
            } else {
                size++;
            }
        }

        void addAll(Rows other) {
            for (int i = 0; i < other.size; i++) {
                addRow(other, i);
            }
        }

        void addRow(Rows other, int row) {
            draftOf(other, row, ALL_VARIABLES);
            keepDraft();
        }

        boolean agrees(int row, Rows other, int otherRow) {
            for (int v = 0; v < VARIABLES; v++) {
                int x = at(row, v);
                int y = other.at(otherRow, v);
                if (x != OPEN && y != OPEN && x != y) {
                    return false;
                }
            }
            return true;
        }

        boolean shares(int row, Rows other, int otherRow) {
            for (int v = 0; v < VARIABLES; v++) {
                if (at(row, v) != OPEN && other.at(otherRow, v) != OPEN) {
                    return true;
                }
            }
            return false;
        }

        boolean isLike(int row, Rows other, int otherRow, int set) {
            for (int v = 0; v < VARIABLES; v++) {
                if (isInSet(v, set) && at(row, v) != other.at(otherRow, v)) {
                    return false;
                }
            }
            return true;
        }

        boolean hasLike(Rows other, int otherRow, int set) {
            for (int i = 0; i < size; i++) {
                if (isLike(i, other, otherRow, set)) {
                    return true;
                }
            }
            return false;
        }

        int countLike(Rows other, int otherRow) {
            int count = 0;
            for (int i = 0; i < size; i++) {
                if (isLike(i, other, otherRow, ALL_VARIABLES)) {
                    count++;
                }
            }
            return count;
        }

        boolean isSameBagAs(Rows other) {
            if (size != other.size) {
                return false;
            }
            // As many rows in all: none can be more often on the other side
            // without another one being less often there.
            for (int i = 0; i < size; i++) {
                if (countLike(this, i) != other.countLike(this, i)) {
                    return false;
                }
            }
            return true;
        }
    }

    /**
     * Makes the rows of nodes over graphs. Rows once made are kept and used
     * again until there is a new triple, so that a node which many others
     * stand over is not made over and over.
     */
    private static final class Maker {
        final Triples triples;
        final Expressions expressions;
        final Nodes nodes;
        private final Rows[] tables;
        private final int[] wantedGraphs;
        private final int[] keys;
        private final int[] places;

        Maker() {
            triples = new Triples();
            expressions = new Expressions();
            nodes = new Nodes();
            tables = new Rows[NODES * GRAPHS];
            wantedGraphs = new int[NODES];
            keys = new int[ROWS];
            places = new int[ROWS];
        }

        Rows rowsOf(int root) {
            markWanted(root);
            // A node stands over nodes of before alone, so going up from the
            // first one finds all that it needs already made.
            for (int i = 0; i <= root; i++) {
                for (int g = 0; g < GRAPHS; g++) {
                    if ((wantedGraphs[i] >> g & 1) != 0) {
                        refresh(i, g);
                    }
                }
            }
            return tableOf(root, 0);
        }

        private void markWanted(int root) {
            for (int i = 0; i < root; i++) {
                wantedGraphs[i] = 0;
            }
            wantedGraphs[root] = 1;
            for (int i = root; i >= 0; i--) {
                Node node = nodes.at(i);
                int below = graphsBelow(node, wantedGraphs[i]);
                if (node.a != NONE) {
                    wantedGraphs[node.a] |= below;
                }
                if (node.b != NONE) {
                    wantedGraphs[node.b] |= below;
                }
            }
        }

        private static int graphsBelow(Node node, int wanted) {
            if (wanted == 0) {
                return 0;
            }
            switch (node.kind) {
                case Node.GRAPH:
                    return 1 << node.graph;
                case Node.EACH_GRAPH:
                    // Graph 0 has no name that a variable could take.
                    return (1 << GRAPHS) - 2;
                default:
                    return wanted;
            }
        }

        private Rows tableOf(int node, int g) {
            int place = node * GRAPHS + g;
            if (tables[place] == null) {
                tables[place] = new Rows();
            }
            return tables[place];
        }

        private void refresh(int i, int g) {
            Rows out = tableOf(i, g);
            if (out.madeAt == triples.size) {
                return;
            }
            out.clear();
            out.madeAt = triples.size;
            Node node = nodes.at(i);
            int graphBelow = node.kind == Node.GRAPH ? node.graph : g;
            if (node.kind == Node.PATTERN) {
                makePattern(node, g, out);
            } else if (node.kind == Node.EACH_GRAPH) {
                makeEachGraph(node, out);
            } else if (node.b == NONE) {
                makeOverOne(node, tableOf(node.a, graphBelow), out);
            } else {
                makeOverTwo(node, tableOf(node.a, graphBelow), tableOf(node.b, graphBelow), out);
            }
        }

        private void makeOverOne(Node node, Rows a, Rows out) {
            if (a.tooLong) {
                out.tooLong = true;
                return;
            }
            switch (node.kind) {
                case Node.FILTER:
                    makeFilter(node, a, out);
                    break;
                case Node.EXTEND:
                    makeExtension(node, a, out);
                    break;
                case Node.PROJECT:
                    makeProjection(node, a, out);
                    break;
                case Node.DISTINCT:
                    makeDistinct(a, ALL_VARIABLES, out);
                    break;
                case Node.SLICE:
                    makeSlice(node, a, out);
                    break;
                case Node.ORDER:
                    makeKeys(node, a);
                    makeOrder(node, a, out);
                    break;
                case Node.GROUP:
                    makeKeys(node, a);
                    makeDistinct(a, node.set, out);
                    makeAggregates(node, a, out);
                    break;
                default:
                    out.addAll(a);
            }
        }

        private void makeOverTwo(Node node, Rows a, Rows b, Rows out) {
            if (a.tooLong || b.tooLong) {
                out.tooLong = true;
                return;
            }
            switch (node.kind) {
                case Node.JOIN:
                    makeJoin(a, b, out);
                    break;
                case Node.UNION:
                    out.addAll(a);
                    out.addAll(b);
                    break;
                case Node.MINUS:
                    makeMinus(a, b, out);
                    break;
                default:
                    makeLeft(node, a, b, out);
            }
        }

        private void makePattern(Node node, int g, Rows out) {
            for (int t = 0; t < triples.size; t++) {
                if (triples.graph[t] != g) {
                    continue;
                }
                out.draftOpen();
                if (fits(node.s, triples.s[t], out)
                        && fits(node.p, triples.p[t], out)
                        && fits(node.o, triples.o[t], out)) {
                    out.keepDraft();
                }
            }
        }

        private static boolean fits(int place, int term, Rows out) {
            return place >= 0 ? place == term : out.draftTakes(-1 - place, term);
        }

        private void makeEachGraph(Node node, Rows out) {
            for (int g = 1; g < GRAPHS; g++) {
                Rows a = tableOf(node.a, g);
                if (a.tooLong) {
                    out.tooLong = true;
                    return;
                }
                for (int i = 0; i < a.size; i++) {
                    out.draftOf(a, i, ALL_VARIABLES);
                    if (out.draftTakes(node.variable, g)) {
                        out.keepDraft();
                    }
                }
            }
        }

        private static void makeJoin(Rows a, Rows b, Rows out) {
            for (int i = 0; i < a.size && !out.tooLong; i++) {
                for (int j = 0; j < b.size && !out.tooLong; j++) {
                    if (a.agrees(i, b, j)) {
                        out.draftTogether(a, i, b, j);
                        out.keepDraft();
                    }
                }
            }
        }

        private static void makeMinus(Rows a, Rows b, Rows out) {
            for (int i = 0; i < a.size; i++) {
                if (!isTakenAway(a, i, b)) {
                    out.addRow(a, i);
                }
            }
        }

        private static boolean isTakenAway(Rows a, int row, Rows b) {
            for (int j = 0; j < b.size; j++) {
                if (a.agrees(row, b, j) && a.shares(row, b, j)) {
                    return true;
                }
            }
            return false;
        }

        private void makeLeft(Node node, Rows a, Rows b, Rows out) {
            for (int i = 0; i < a.size && !out.tooLong; i++) {
                boolean alone = true;
                for (int j = 0; j < b.size && !out.tooLong; j++) {
                    if (!a.agrees(i, b, j)) {
                        continue;
                    }
                    out.draftTogether(a, i, b, j);
                    if (node.expression == NONE
                            || isTrue(expressions.valueOf(node.expression, out, out.size))) {
                        out.keepDraft();
                        alone = false;
                    }
                }
                if (alone) {
                    out.addRow(a, i);
                }
            }
        }

        private void makeFilter(Node node, Rows a, Rows out) {
            for (int i = 0; i < a.size; i++) {
                if (isTrue(expressions.valueOf(node.expression, a, i))) {
                    out.addRow(a, i);
                }
            }
        }

        private void makeExtension(Node node, Rows a, Rows out) {
            for (int i = 0; i < a.size; i++) {
                out.draftOf(a, i, ALL_VARIABLES);
                // An error leaves it open by itself: both are one number.
                out.draftTakes(node.variable, expressions.valueOf(node.expression, a, i));
                out.keepDraft();
            }
        }

        private static void makeProjection(Node node, Rows a, Rows out) {
            for (int i = 0; i < a.size; i++) {
                out.draftOf(a, i, node.set);
                out.keepDraft();
            }
        }

        private static void makeDistinct(Rows a, int set, Rows out) {
            for (int i = 0; i < a.size; i++) {
                if (!out.hasLike(a, i, set)) {
                    out.draftOf(a, i, set);
                    out.keepDraft();
                }
            }
        }

        private static void makeSlice(Node node, Rows a, Rows out) {
            for (int i = node.from; i < a.size && i < node.from + node.length; i++) {
                out.addRow(a, i);
            }
        }

        private void makeKeys(Node node, Rows a) {
            for (int i = 0; i < a.size; i++) {
                keys[i] = expressions.valueOf(node.expression, a, i);
            }
        }

        private void makeOrder(Node node, Rows a, Rows out) {
            for (int i = 0; i < a.size; i++) {
                int place = i;
                while (place > 0 && goesBefore(keys[i], keys[places[place - 1]], node.down)) {
                    places[place] = places[place - 1];
                    place--;
                }
                places[place] = i;
            }
            for (int i = 0; i < a.size; i++) {
                out.addRow(a, places[i]);
            }
        }

        private static boolean goesBefore(int key, int other, boolean down) {
            return down ? key > other : key < other;
        }

        private void makeAggregates(Node node, Rows a, Rows groups) {
            if (a.size == 0 && node.set == 0) {
                groups.draftOpen();
                groups.keepDraft();
            }
            for (int i = 0; i < groups.size; i++) {
                groups.put(i, node.variable, aggregate(node, a, groups, i));
            }
        }

        private int aggregate(Node node, Rows a, Rows groups, int group) {
            int errors = 0;
            int count = 0;
            long total = 0;
            int least = VALUE_LIMIT;
            int greatest = -VALUE_LIMIT;
            for (int i = 0; i < a.size; i++) {
                if (!groups.isLike(group, a, i, node.set)) {
                    continue;
                }
                if (keys[i] == ERROR) {
                    errors++;
                    continue;
                }
                count++;
                total += keys[i];
                least = Math.min(least, keys[i]);
                greatest = Math.max(greatest, keys[i]);
            }
            if (node.aggregate == Node.COUNT) {
                return count;
            }
            if (errors > 0) {
                return OPEN;
            }
            if (node.aggregate == Node.TOTAL) {
                return valueOrError(total);
            }
            if (count == 0) {
                return OPEN;
            }
            return node.aggregate == Node.LEAST ? least : greatest;
        }
    }
}
